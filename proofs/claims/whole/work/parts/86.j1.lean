/-! ===== the class's reader: letters, figures, numbers ===== -/
def hx (I : Nat → Nat → Int32) (p : Nat) : Nat → Nat → Int32 := va_up I 3 (upd (I 3) 1 (nI p))
section J1
variable {E : tm_Env} {Q : Option Int32 → tm_St → Prop} {I : Nat → Nat → Int32} {J : Nat → Nat → Int64} {R : Nat → Nat → Option Nat} {h d : Nat} {n p q nr nt : Nat} {tc : Nat → Nat} {M : tm_Mem}
theorem hx_1 : hx I p 3 1 = nI p := Eq.trans rfl rfl
theorem hx_x {c : Nat} (hc : c ≠ 3) : hx I p c = I c := by
  unfold hx
  rw [vu, if_neg hc]
theorem hx_set : va_up (hx I p) 3 (upd (hx I p 3) 1 (nI q)) = hx I q := by
  unfold hx
  rw [vu_vu, vu_eq, upd_upd]
theorem hx_up {c : Nat} (hc : c ≠ 3) (f : Nat → Int32) : va_up (hx I p) c f = hx (va_up I c f) p := by
  unfold hx
  rw [vu_comm _ (by omega), vu, if_neg (by omega)]
theorem hx_t1 : hx I p 1 = I 1 := Eq.trans rfl rfl
theorem hx_t2 : hx I p 2 = I 2 := Eq.trans rfl rfl
theorem TXc_hx (hT : TXc I n tc) : TXc (hx I p) n tc := hT
theorem cc_c (hT : TXc I n tc) : cc n tc p < 127 := by
  unfold cc
  split
  · rename_i c
    have := (hT.2.2 p c).2.2
    omega
  · decide
theorem c_peek3 (hR : tRef h d R) (hT : TXc I n tc) (hp : p < 1000) : tEv E 20 0 [.ref 3] [] (mS (hx I p) J R) Q = Q (some (nI (cc n tc p))) (mS (hx I p) J R) := by
  have hn := hT.2.1
  have e1 : (nI p < nI n) = (p < n) := propext (nI_ltI (by omega) (by omega))
  have hnc := nar_char (cc n tc p) (cc_c hT)
  have hn0 : narrow .char (.int 0) = .int 0 := nar_char 0 (by decide)
  simp only [e_20_0, e_20_1, e_20_4, e_20_5, e_20_8, e_20_11, e_20_14, e_20_15, e_20_18, e_20_21, e_20_24, e_20_25, e_20_28, e_20_31, e_20_32, e_20_35, e_20_36, e_20_39, e_20_40, rf_0_0 hR, rf_0_1 hR, rf_0_2 hR, rf_0_3 hR, rf_0_4 hR, rf_0_5 hR, rf_0_6 hR, rf_1_0 hR, rf_3_0 hR, rf_3_2 hR, rf_4_3 hR, rf_4_4 hR, rf_4_5 hR, rf_4_6 hR, rf_4_7 hR, rf_4_8 hR, rf_4_9 hR, rf_12_1 hR, rf_13_3 hR, rf_13_4 hR, rf_13_5 hR, rf_13_6 hR, rf_13_7 hR, rf_13_8 hR, rf_13_9 hR, rf_21_0 hR, rf_21_1 hR, rf_24_0 hR, rf_25_0 hR, rf_26_0 hR, rf_26_1 hR, rf_26_2 hR, rf_26_3 hR, rf_26_4 hR, rf_26_5 hR, rf_26_6 hR, rf_26_7 hR, rf_27_0 hR, rf_27_1 hR, rf_30_0 hR, rf_30_1 hR, rf_33_0 hR, rf_33_1 hR, rf_36_0 hR, rf_36_1 hR, rf_39_0 hR, rf_39_1 hR, rf_42_0 hR, rf_42_1 hR, rf_45_0 hR, rf_45_1 hR, rf_48_0 hR, rf_48_1 hR, rf_51_0 hR, rf_51_1 hR, rf_51_6 hR, rf_51_7 hR, rf_h_3 hR, rf_d_3 hR, rf_h_4 hR, rf_d_4 hR, rf_h_5 hR, rf_d_5 hR, rf_h_6 hR, rf_d_6 hR, rf_h_7 hR, rf_d_7 hR, rf_h_8 hR, rf_d_8 hR, rf_h_9 hR, rf_d_9 hR, rf_12_0 hR, rf_3_1 hR, kn_0, kn_1, kn_2, kn_3, kn_4, kn_5, kn_6, kn_7, kn_8, kn_9, kn_10, kn_11, kn_12, kn_13, kn_14, kn_15, kn_16, kn_17, kn_18, kn_19, kn_20, kn_21, kn_22, kn_23, kn_24, kn_25, kn_26, kn_27, kn_28, kn_29, kn_30, kn_31, kn_32, kn_33, kn_34, kn_35, kn_36, kn_37, kn_38, kn_39, kn_40, kn_41, kn_42, kn_43, kn_44, kn_45, kn_46, kn_47, kn_48, kn_49, kn_50, kn_51, kn_52, kn_53, kn_54, kn_55, ln_2, ln_5, ln_6, ln_7, ln_8, ln_9, ln_10, ln_11, ln_14, ln_15, ln_16, ln_17, ln_18, ln_19, ln_20, ln_22, ln_23, ln_26, ln_28, ln_29, ln_31, ln_32, ln_34, ln_35, ln_37, ln_38, ln_40, ln_41, ln_43, ln_44, ln_46, ln_47, ln_49, ln_50, ln_52, kn_h hR, lt_h hR, kn_h1 hR, ln_h1 hR, lt_h1 hR, kn_h2 hR, ln_h2 hR, lt_h2 hR, kn_h3 hR, ln_h3 hR, lt_h3 hR, kn_h4 hR, ln_h4 hR, lt_h4 hR, kn_h5 hR, ln_h5 hR, lt_h5 hR, kn_h6 hR, ln_h6 hR, lt_h6 hR, kn_h7 hR, ln_h7 hR, lt_h7 hR, kn_d hR, lt_d hR, kn_d1 hR, ln_d1 hR, lt_d1 hR, kn_d2 hR, ln_d2 hR, lt_d2 hR, kn_d3 hR, ln_d3 hR, lt_d3 hR, kn_d4 hR, ln_d4 hR, lt_d4 hR, kn_d5 hR, ln_d5 hR, lt_d5 hR, kn_d6 hR, ln_d6 hR, lt_d6 hR, kn_d7 hR, ln_d7 hR, lt_d7 hR, va_rf_some, push_s, push_n, nb0, nb1, nbb, Nat.reduceLT, hx_1, hx_t1, hx_t2, hT.1, e1]
  unfold cc at hnc ⊢
  by_cases c : p < n
  · have e2 : (nI p < 240) = True := eq_true (nI_lt (b := 240) (by omega) (by omega))
    have hix := inb_nI (j := p) (n := 240) (by omega) (by decide)
    have hcl := nI_cl (n := p) (by omega)
    rw [if_pos c] at hnc
    simp only [c, if_true, e2, e_20_0, e_20_1, e_20_4, e_20_5, e_20_8, e_20_11, e_20_14, e_20_15, e_20_18, e_20_21, e_20_24, e_20_25, e_20_28, e_20_31, e_20_32, e_20_35, e_20_36, e_20_39, e_20_40, rf_0_0 hR, rf_0_1 hR, rf_0_2 hR, rf_0_3 hR, rf_0_4 hR, rf_0_5 hR, rf_0_6 hR, rf_1_0 hR, rf_3_0 hR, rf_3_2 hR, rf_4_3 hR, rf_4_4 hR, rf_4_5 hR, rf_4_6 hR, rf_4_7 hR, rf_4_8 hR, rf_4_9 hR, rf_12_1 hR, rf_13_3 hR, rf_13_4 hR, rf_13_5 hR, rf_13_6 hR, rf_13_7 hR, rf_13_8 hR, rf_13_9 hR, rf_21_0 hR, rf_21_1 hR, rf_24_0 hR, rf_25_0 hR, rf_26_0 hR, rf_26_1 hR, rf_26_2 hR, rf_26_3 hR, rf_26_4 hR, rf_26_5 hR, rf_26_6 hR, rf_26_7 hR, rf_27_0 hR, rf_27_1 hR, rf_30_0 hR, rf_30_1 hR, rf_33_0 hR, rf_33_1 hR, rf_36_0 hR, rf_36_1 hR, rf_39_0 hR, rf_39_1 hR, rf_42_0 hR, rf_42_1 hR, rf_45_0 hR, rf_45_1 hR, rf_48_0 hR, rf_48_1 hR, rf_51_0 hR, rf_51_1 hR, rf_51_6 hR, rf_51_7 hR, rf_h_3 hR, rf_d_3 hR, rf_h_4 hR, rf_d_4 hR, rf_h_5 hR, rf_d_5 hR, rf_h_6 hR, rf_d_6 hR, rf_h_7 hR, rf_d_7 hR, rf_h_8 hR, rf_d_8 hR, rf_h_9 hR, rf_d_9 hR, rf_12_0 hR, rf_3_1 hR, kn_0, kn_1, kn_2, kn_3, kn_4, kn_5, kn_6, kn_7, kn_8, kn_9, kn_10, kn_11, kn_12, kn_13, kn_14, kn_15, kn_16, kn_17, kn_18, kn_19, kn_20, kn_21, kn_22, kn_23, kn_24, kn_25, kn_26, kn_27, kn_28, kn_29, kn_30, kn_31, kn_32, kn_33, kn_34, kn_35, kn_36, kn_37, kn_38, kn_39, kn_40, kn_41, kn_42, kn_43, kn_44, kn_45, kn_46, kn_47, kn_48, kn_49, kn_50, kn_51, kn_52, kn_53, kn_54, kn_55, ln_2, ln_5, ln_6, ln_7, ln_8, ln_9, ln_10, ln_11, ln_14, ln_15, ln_16, ln_17, ln_18, ln_19, ln_20, ln_22, ln_23, ln_26, ln_28, ln_29, ln_31, ln_32, ln_34, ln_35, ln_37, ln_38, ln_40, ln_41, ln_43, ln_44, ln_46, ln_47, ln_49, ln_50, ln_52, kn_h hR, lt_h hR, kn_h1 hR, ln_h1 hR, lt_h1 hR, kn_h2 hR, ln_h2 hR, lt_h2 hR, kn_h3 hR, ln_h3 hR, lt_h3 hR, kn_h4 hR, ln_h4 hR, lt_h4 hR, kn_h5 hR, ln_h5 hR, lt_h5 hR, kn_h6 hR, ln_h6 hR, lt_h6 hR, kn_h7 hR, ln_h7 hR, lt_h7 hR, kn_d hR, lt_d hR, kn_d1 hR, ln_d1 hR, lt_d1 hR, kn_d2 hR, ln_d2 hR, lt_d2 hR, kn_d3 hR, ln_d3 hR, lt_d3 hR, kn_d4 hR, ln_d4 hR, lt_d4 hR, kn_d5 hR, ln_d5 hR, lt_d5 hR, kn_d6 hR, ln_d6 hR, lt_d6 hR, kn_d7 hR, ln_d7 hR, lt_d7 hR, va_rf_some, push_s, push_n, nb0, nb1, nbb, Nat.reduceLT, hx_1, hx_t2, hix, hcl, (hT.2.2 p c).1, hnc]
  · simp only [c, if_false, e_20_39, e_20_40, hn0]
    rfl
theorem c_pop3 (hR : tRef h d R) (hT : TXc I n tc) (hp : p < 1000) : tEv E 21 0 [.ref 3, tm_dum] [] (mS (hx I p) J R) Q = Q (some (nI (cc n tc p))) (mS (hx I (p + 1)) J R) := by
  have hpk := fun {Q} => c_peek3 (E := E) (Q := Q) (J := J) hR hT hp
  have hnc := nar_char (cc n tc p) (cc_c hT)
  simp only [e_21_0, e_21_1, e_21_4, e_21_5, e_21_6, e_21_7, e_21_10, e_21_11, e_21_12, e_21_15, e_21_16, rf_0_0 hR, rf_0_1 hR, rf_0_2 hR, rf_0_3 hR, rf_0_4 hR, rf_0_5 hR, rf_0_6 hR, rf_1_0 hR, rf_3_0 hR, rf_3_2 hR, rf_4_3 hR, rf_4_4 hR, rf_4_5 hR, rf_4_6 hR, rf_4_7 hR, rf_4_8 hR, rf_4_9 hR, rf_12_1 hR, rf_13_3 hR, rf_13_4 hR, rf_13_5 hR, rf_13_6 hR, rf_13_7 hR, rf_13_8 hR, rf_13_9 hR, rf_21_0 hR, rf_21_1 hR, rf_24_0 hR, rf_25_0 hR, rf_26_0 hR, rf_26_1 hR, rf_26_2 hR, rf_26_3 hR, rf_26_4 hR, rf_26_5 hR, rf_26_6 hR, rf_26_7 hR, rf_27_0 hR, rf_27_1 hR, rf_30_0 hR, rf_30_1 hR, rf_33_0 hR, rf_33_1 hR, rf_36_0 hR, rf_36_1 hR, rf_39_0 hR, rf_39_1 hR, rf_42_0 hR, rf_42_1 hR, rf_45_0 hR, rf_45_1 hR, rf_48_0 hR, rf_48_1 hR, rf_51_0 hR, rf_51_1 hR, rf_51_6 hR, rf_51_7 hR, rf_h_3 hR, rf_d_3 hR, rf_h_4 hR, rf_d_4 hR, rf_h_5 hR, rf_d_5 hR, rf_h_6 hR, rf_d_6 hR, rf_h_7 hR, rf_d_7 hR, rf_h_8 hR, rf_d_8 hR, rf_h_9 hR, rf_d_9 hR, rf_12_0 hR, rf_3_1 hR, kn_0, kn_1, kn_2, kn_3, kn_4, kn_5, kn_6, kn_7, kn_8, kn_9, kn_10, kn_11, kn_12, kn_13, kn_14, kn_15, kn_16, kn_17, kn_18, kn_19, kn_20, kn_21, kn_22, kn_23, kn_24, kn_25, kn_26, kn_27, kn_28, kn_29, kn_30, kn_31, kn_32, kn_33, kn_34, kn_35, kn_36, kn_37, kn_38, kn_39, kn_40, kn_41, kn_42, kn_43, kn_44, kn_45, kn_46, kn_47, kn_48, kn_49, kn_50, kn_51, kn_52, kn_53, kn_54, kn_55, ln_2, ln_5, ln_6, ln_7, ln_8, ln_9, ln_10, ln_11, ln_14, ln_15, ln_16, ln_17, ln_18, ln_19, ln_20, ln_22, ln_23, ln_26, ln_28, ln_29, ln_31, ln_32, ln_34, ln_35, ln_37, ln_38, ln_40, ln_41, ln_43, ln_44, ln_46, ln_47, ln_49, ln_50, ln_52, kn_h hR, lt_h hR, kn_h1 hR, ln_h1 hR, lt_h1 hR, kn_h2 hR, ln_h2 hR, lt_h2 hR, kn_h3 hR, ln_h3 hR, lt_h3 hR, kn_h4 hR, ln_h4 hR, lt_h4 hR, kn_h5 hR, ln_h5 hR, lt_h5 hR, kn_h6 hR, ln_h6 hR, lt_h6 hR, kn_h7 hR, ln_h7 hR, lt_h7 hR, kn_d hR, lt_d hR, kn_d1 hR, ln_d1 hR, lt_d1 hR, kn_d2 hR, ln_d2 hR, lt_d2 hR, kn_d3 hR, ln_d3 hR, lt_d3 hR, kn_d4 hR, ln_d4 hR, lt_d4 hR, kn_d5 hR, ln_d5 hR, lt_d5 hR, kn_d6 hR, ln_d6 hR, lt_d6 hR, kn_d7 hR, ln_d7 hR, lt_d7 hR, va_rf_some, push_s, push_n, nb0, nb1, nbb, Nat.reduceLT, hpk, hx_1, nI_1, hx_set, hnc]
theorem c_skip3 (hR : tRef h d R) (hT : TXc I n tc) (hp : p < 1000) {x : Nat} (hxx : x < 127) : tEv E 29 0 [.ref 3, .int (nI x)] [] (mS (hx I p) J R) Q = Q (some (b2i (decide (cc n tc p = x)))) (mS (hx I (op n tc x p)) J R) := by
  have hpk := fun {Q} => c_peek3 (E := E) (Q := Q) (J := J) hR hT hp
  have hc := cc_c (p := p) hT
  have e : (nI (cc n tc p) = nI x) = (cc n tc p = x) := propext (nI_eq (by omega) (by omega))
  simp only [e_29_0, e_29_1, e_29_4, e_29_5, e_29_8, e_29_9, e_29_10, e_29_11, e_29_12, e_29_15, e_29_16, e_29_17, e_29_20, e_29_21, rf_0_0 hR, rf_0_1 hR, rf_0_2 hR, rf_0_3 hR, rf_0_4 hR, rf_0_5 hR, rf_0_6 hR, rf_1_0 hR, rf_3_0 hR, rf_3_2 hR, rf_4_3 hR, rf_4_4 hR, rf_4_5 hR, rf_4_6 hR, rf_4_7 hR, rf_4_8 hR, rf_4_9 hR, rf_12_1 hR, rf_13_3 hR, rf_13_4 hR, rf_13_5 hR, rf_13_6 hR, rf_13_7 hR, rf_13_8 hR, rf_13_9 hR, rf_21_0 hR, rf_21_1 hR, rf_24_0 hR, rf_25_0 hR, rf_26_0 hR, rf_26_1 hR, rf_26_2 hR, rf_26_3 hR, rf_26_4 hR, rf_26_5 hR, rf_26_6 hR, rf_26_7 hR, rf_27_0 hR, rf_27_1 hR, rf_30_0 hR, rf_30_1 hR, rf_33_0 hR, rf_33_1 hR, rf_36_0 hR, rf_36_1 hR, rf_39_0 hR, rf_39_1 hR, rf_42_0 hR, rf_42_1 hR, rf_45_0 hR, rf_45_1 hR, rf_48_0 hR, rf_48_1 hR, rf_51_0 hR, rf_51_1 hR, rf_51_6 hR, rf_51_7 hR, rf_h_3 hR, rf_d_3 hR, rf_h_4 hR, rf_d_4 hR, rf_h_5 hR, rf_d_5 hR, rf_h_6 hR, rf_d_6 hR, rf_h_7 hR, rf_d_7 hR, rf_h_8 hR, rf_d_8 hR, rf_h_9 hR, rf_d_9 hR, rf_12_0 hR, rf_3_1 hR, kn_0, kn_1, kn_2, kn_3, kn_4, kn_5, kn_6, kn_7, kn_8, kn_9, kn_10, kn_11, kn_12, kn_13, kn_14, kn_15, kn_16, kn_17, kn_18, kn_19, kn_20, kn_21, kn_22, kn_23, kn_24, kn_25, kn_26, kn_27, kn_28, kn_29, kn_30, kn_31, kn_32, kn_33, kn_34, kn_35, kn_36, kn_37, kn_38, kn_39, kn_40, kn_41, kn_42, kn_43, kn_44, kn_45, kn_46, kn_47, kn_48, kn_49, kn_50, kn_51, kn_52, kn_53, kn_54, kn_55, ln_2, ln_5, ln_6, ln_7, ln_8, ln_9, ln_10, ln_11, ln_14, ln_15, ln_16, ln_17, ln_18, ln_19, ln_20, ln_22, ln_23, ln_26, ln_28, ln_29, ln_31, ln_32, ln_34, ln_35, ln_37, ln_38, ln_40, ln_41, ln_43, ln_44, ln_46, ln_47, ln_49, ln_50, ln_52, kn_h hR, lt_h hR, kn_h1 hR, ln_h1 hR, lt_h1 hR, kn_h2 hR, ln_h2 hR, lt_h2 hR, kn_h3 hR, ln_h3 hR, lt_h3 hR, kn_h4 hR, ln_h4 hR, lt_h4 hR, kn_h5 hR, ln_h5 hR, lt_h5 hR, kn_h6 hR, ln_h6 hR, lt_h6 hR, kn_h7 hR, ln_h7 hR, lt_h7 hR, kn_d hR, lt_d hR, kn_d1 hR, ln_d1 hR, lt_d1 hR, kn_d2 hR, ln_d2 hR, lt_d2 hR, kn_d3 hR, ln_d3 hR, lt_d3 hR, kn_d4 hR, ln_d4 hR, lt_d4 hR, kn_d5 hR, ln_d5 hR, lt_d5 hR, kn_d6 hR, ln_d6 hR, lt_d6 hR, kn_d7 hR, ln_d7 hR, lt_d7 hR, va_rf_some, push_s, push_n, nb0, nb1, nbb, Nat.reduceLT, hpk, e, hx_1, nI_1, hx_set]
  unfold op
  by_cases c : cc n tc p = x
  · simp [c, b2i]
  · simp [c, b2i]
/-- two figures -/
theorem c_numberOf {a b : Nat} (ha : a < 127) (hb : b < 127) : tEv E 24 0 [.int (nI a), .int (nI b)] [] (M, 0, 0) Q = Q (some (if 48 ≤ a ∧ a ≤ 57 ∧ 48 ≤ b ∧ b ≤ 57 then nI (10 * (a - 48) + (b - 48)) else -1)) (M, 0, 0) := by
  have e1 : (nI a < 48) = (a < 48) := propext (nI_ltI (b := 48) (by omega) (by omega))
  have e2 : ((57 : Int32) < nI a) = (57 < a) := propext (nI_ltI (a := 57) (by omega) (by omega))
  have e3 : (nI b < 48) = (b < 48) := propext (nI_ltI (b := 48) (by omega) (by omega))
  have e4 : ((57 : Int32) < nI b) = (57 < b) := propext (nI_ltI (a := 57) (by omega) (by omega))
  simp only [e_24_0, e_24_1, e_24_3, e_24_6, e_24_7, e_24_9, e_24_12, e_24_13, e_24_15, e_24_18, e_24_19, e_24_21, e_24_24, e_24_25, e_24_26, e_24_27, e_24_29, e_24_30, e_24_32, e_24_33, e_24_34, e_24_36, e_24_37, e_24_38, va_rf_some, push_s, push_n, nb0, nb1, nbb, Nat.reduceLT, e1, e2, e3, e4]
  by_cases c1 : a < 48
  · rw [if_pos c1, if_neg (show ¬ (48 ≤ a ∧ a ≤ 57 ∧ 48 ≤ b ∧ b ≤ 57) by omega)]
  · rw [if_neg c1]
    by_cases c2 : 57 < a
    · rw [if_pos c2, if_neg (show ¬ (48 ≤ a ∧ a ≤ 57 ∧ 48 ≤ b ∧ b ≤ 57) by omega)]
    · rw [if_neg c2]
      by_cases c3 : b < 48
      · rw [if_pos c3, if_neg (show ¬ (48 ≤ a ∧ a ≤ 57 ∧ 48 ≤ b ∧ b ≤ 57) by omega)]
      · rw [if_neg c3]
        by_cases c4 : 57 < b
        · rw [if_pos c4, if_neg (show ¬ (48 ≤ a ∧ a ≤ 57 ∧ 48 ≤ b ∧ b ≤ 57) by omega)]
        · rw [if_neg c4, if_pos (show (48 ≤ a ∧ a ≤ 57 ∧ 48 ≤ b ∧ b ≤ 57) by omega)]
          have s1 : nI a - 48 = nI (a - 48) := pk_sub (b := 48) (by omega)
          have s2 : nI b - 48 = nI (b - 48) := pk_sub (b := 48) (by omega)
          rw [s1, s2, show (10 : Int32) = nI 10 from rfl, nI_mul, nI_add, Nat.mul_comm]
theorem c_isThing3 (hR : tRef h d R) (h1 : I d 1 = nI nt) {x : Int32} : tEv E 25 0 [.ref 3, .int x] [] (mS I J R) Q = Q (some (b2i (isB x nt))) (mS I J R) := by
  simp only [e_25_0, e_25_1, e_25_4, e_25_5, e_25_6, e_25_9, e_25_12, e_25_15, e_25_16, e_25_19, e_25_20, rf_0_0 hR, rf_0_1 hR, rf_0_2 hR, rf_0_3 hR, rf_0_4 hR, rf_0_5 hR, rf_0_6 hR, rf_1_0 hR, rf_3_0 hR, rf_3_2 hR, rf_4_3 hR, rf_4_4 hR, rf_4_5 hR, rf_4_6 hR, rf_4_7 hR, rf_4_8 hR, rf_4_9 hR, rf_12_1 hR, rf_13_3 hR, rf_13_4 hR, rf_13_5 hR, rf_13_6 hR, rf_13_7 hR, rf_13_8 hR, rf_13_9 hR, rf_21_0 hR, rf_21_1 hR, rf_24_0 hR, rf_25_0 hR, rf_26_0 hR, rf_26_1 hR, rf_26_2 hR, rf_26_3 hR, rf_26_4 hR, rf_26_5 hR, rf_26_6 hR, rf_26_7 hR, rf_27_0 hR, rf_27_1 hR, rf_30_0 hR, rf_30_1 hR, rf_33_0 hR, rf_33_1 hR, rf_36_0 hR, rf_36_1 hR, rf_39_0 hR, rf_39_1 hR, rf_42_0 hR, rf_42_1 hR, rf_45_0 hR, rf_45_1 hR, rf_48_0 hR, rf_48_1 hR, rf_51_0 hR, rf_51_1 hR, rf_51_6 hR, rf_51_7 hR, rf_h_3 hR, rf_d_3 hR, rf_h_4 hR, rf_d_4 hR, rf_h_5 hR, rf_d_5 hR, rf_h_6 hR, rf_d_6 hR, rf_h_7 hR, rf_d_7 hR, rf_h_8 hR, rf_d_8 hR, rf_h_9 hR, rf_d_9 hR, rf_12_0 hR, rf_3_1 hR, kn_0, kn_1, kn_2, kn_3, kn_4, kn_5, kn_6, kn_7, kn_8, kn_9, kn_10, kn_11, kn_12, kn_13, kn_14, kn_15, kn_16, kn_17, kn_18, kn_19, kn_20, kn_21, kn_22, kn_23, kn_24, kn_25, kn_26, kn_27, kn_28, kn_29, kn_30, kn_31, kn_32, kn_33, kn_34, kn_35, kn_36, kn_37, kn_38, kn_39, kn_40, kn_41, kn_42, kn_43, kn_44, kn_45, kn_46, kn_47, kn_48, kn_49, kn_50, kn_51, kn_52, kn_53, kn_54, kn_55, ln_2, ln_5, ln_6, ln_7, ln_8, ln_9, ln_10, ln_11, ln_14, ln_15, ln_16, ln_17, ln_18, ln_19, ln_20, ln_22, ln_23, ln_26, ln_28, ln_29, ln_31, ln_32, ln_34, ln_35, ln_37, ln_38, ln_40, ln_41, ln_43, ln_44, ln_46, ln_47, ln_49, ln_50, ln_52, kn_h hR, lt_h hR, kn_h1 hR, ln_h1 hR, lt_h1 hR, kn_h2 hR, ln_h2 hR, lt_h2 hR, kn_h3 hR, ln_h3 hR, lt_h3 hR, kn_h4 hR, ln_h4 hR, lt_h4 hR, kn_h5 hR, ln_h5 hR, lt_h5 hR, kn_h6 hR, ln_h6 hR, lt_h6 hR, kn_h7 hR, ln_h7 hR, lt_h7 hR, kn_d hR, lt_d hR, kn_d1 hR, ln_d1 hR, lt_d1 hR, kn_d2 hR, ln_d2 hR, lt_d2 hR, kn_d3 hR, ln_d3 hR, lt_d3 hR, kn_d4 hR, ln_d4 hR, lt_d4 hR, kn_d5 hR, ln_d5 hR, lt_d5 hR, kn_d6 hR, ln_d6 hR, lt_d6 hR, kn_d7 hR, ln_d7 hR, lt_d7 hR, va_rf_some, push_s, push_n, nb0, nb1, nbb, Nat.reduceLT, h1]
  unfold isB
  by_cases c1 : x < 0
  · rw [if_pos c1, decide_eq_false (fun e => Int32.not_lt.mpr e.1 c1)]
    rfl
  · rw [if_neg c1]
    by_cases c2 : x < nI nt
    · rw [if_pos c2, decide_eq_true ⟨Int32.not_lt.mp c1, c2⟩]
      rfl
    · rw [if_neg c2, decide_eq_false (fun e => c2 e.2)]
      rfl
theorem c_isRoom3 (hR : tRef h d R) (h1 : I d 0 = nI nr) {x : Int32} : tEv E 37 0 [.ref 3, .int x] [] (mS I J R) Q = Q (some (b2i (isB x nr))) (mS I J R) := by
  simp only [e_37_0, e_37_1, e_37_4, e_37_5, e_37_6, e_37_9, e_37_12, e_37_15, e_37_16, e_37_19, e_37_20, rf_0_0 hR, rf_0_1 hR, rf_0_2 hR, rf_0_3 hR, rf_0_4 hR, rf_0_5 hR, rf_0_6 hR, rf_1_0 hR, rf_3_0 hR, rf_3_2 hR, rf_4_3 hR, rf_4_4 hR, rf_4_5 hR, rf_4_6 hR, rf_4_7 hR, rf_4_8 hR, rf_4_9 hR, rf_12_1 hR, rf_13_3 hR, rf_13_4 hR, rf_13_5 hR, rf_13_6 hR, rf_13_7 hR, rf_13_8 hR, rf_13_9 hR, rf_21_0 hR, rf_21_1 hR, rf_24_0 hR, rf_25_0 hR, rf_26_0 hR, rf_26_1 hR, rf_26_2 hR, rf_26_3 hR, rf_26_4 hR, rf_26_5 hR, rf_26_6 hR, rf_26_7 hR, rf_27_0 hR, rf_27_1 hR, rf_30_0 hR, rf_30_1 hR, rf_33_0 hR, rf_33_1 hR, rf_36_0 hR, rf_36_1 hR, rf_39_0 hR, rf_39_1 hR, rf_42_0 hR, rf_42_1 hR, rf_45_0 hR, rf_45_1 hR, rf_48_0 hR, rf_48_1 hR, rf_51_0 hR, rf_51_1 hR, rf_51_6 hR, rf_51_7 hR, rf_h_3 hR, rf_d_3 hR, rf_h_4 hR, rf_d_4 hR, rf_h_5 hR, rf_d_5 hR, rf_h_6 hR, rf_d_6 hR, rf_h_7 hR, rf_d_7 hR, rf_h_8 hR, rf_d_8 hR, rf_h_9 hR, rf_d_9 hR, rf_12_0 hR, rf_3_1 hR, kn_0, kn_1, kn_2, kn_3, kn_4, kn_5, kn_6, kn_7, kn_8, kn_9, kn_10, kn_11, kn_12, kn_13, kn_14, kn_15, kn_16, kn_17, kn_18, kn_19, kn_20, kn_21, kn_22, kn_23, kn_24, kn_25, kn_26, kn_27, kn_28, kn_29, kn_30, kn_31, kn_32, kn_33, kn_34, kn_35, kn_36, kn_37, kn_38, kn_39, kn_40, kn_41, kn_42, kn_43, kn_44, kn_45, kn_46, kn_47, kn_48, kn_49, kn_50, kn_51, kn_52, kn_53, kn_54, kn_55, ln_2, ln_5, ln_6, ln_7, ln_8, ln_9, ln_10, ln_11, ln_14, ln_15, ln_16, ln_17, ln_18, ln_19, ln_20, ln_22, ln_23, ln_26, ln_28, ln_29, ln_31, ln_32, ln_34, ln_35, ln_37, ln_38, ln_40, ln_41, ln_43, ln_44, ln_46, ln_47, ln_49, ln_50, ln_52, kn_h hR, lt_h hR, kn_h1 hR, ln_h1 hR, lt_h1 hR, kn_h2 hR, ln_h2 hR, lt_h2 hR, kn_h3 hR, ln_h3 hR, lt_h3 hR, kn_h4 hR, ln_h4 hR, lt_h4 hR, kn_h5 hR, ln_h5 hR, lt_h5 hR, kn_h6 hR, ln_h6 hR, lt_h6 hR, kn_h7 hR, ln_h7 hR, lt_h7 hR, kn_d hR, lt_d hR, kn_d1 hR, ln_d1 hR, lt_d1 hR, kn_d2 hR, ln_d2 hR, lt_d2 hR, kn_d3 hR, ln_d3 hR, lt_d3 hR, kn_d4 hR, ln_d4 hR, lt_d4 hR, kn_d5 hR, ln_d5 hR, lt_d5 hR, kn_d6 hR, ln_d6 hR, lt_d6 hR, kn_d7 hR, ln_d7 hR, lt_d7 hR, va_rf_some, push_s, push_n, nb0, nb1, nbb, Nat.reduceLT, h1]
  unfold isB
  by_cases c1 : x < 0
  · rw [if_pos c1, decide_eq_false (fun e => Int32.not_lt.mpr e.1 c1)]
    rfl
  · rw [if_neg c1]
    by_cases c2 : x < nI nr
    · rw [if_pos c2, decide_eq_true ⟨Int32.not_lt.mp c1, c2⟩]
      rfl
    · rw [if_neg c2, decide_eq_false (fun e => c2 e.2)]
      rfl
theorem isB_m1 {nt : Nat} : isB (-1) nt = false := decide_eq_false (fun e => absurd e.1 (by decide))
theorem th_num {n nt p : Nat} {tc : Nat → Nat} (hn : nt < 1000) : isB (if 48 ≤ cc n tc p ∧ cc n tc p ≤ 57 ∧ 48 ≤ cc n tc (p + 1) ∧ cc n tc (p + 1) ≤ 57 then nI (10 * (cc n tc p - 48) + (cc n tc (p + 1) - 48)) else -1) nt = thOk n tc nt p := by
  unfold thOk dg thV dv
  by_cases c : 48 ≤ cc n tc p ∧ cc n tc p ≤ 57 ∧ 48 ≤ cc n tc (p + 1) ∧ cc n tc (p + 1) ≤ 57
  · rw [if_pos c, isB_nI (by omega) (by omega), decide_eq_true (show 48 ≤ cc n tc p ∧ cc n tc p ≤ 57 by omega), decide_eq_true (show 48 ≤ cc n tc (p + 1) ∧ cc n tc (p + 1) ≤ 57 by omega)]
    rfl
  · rw [if_neg c, isB_m1]
    by_cases c1 : 48 ≤ cc n tc p ∧ cc n tc p ≤ 57
    · rw [decide_eq_false (show ¬ (48 ≤ cc n tc (p + 1) ∧ cc n tc (p + 1) ≤ 57) by omega)]
      simp
    · rw [decide_eq_false c1]
      rfl
theorem th_val {n nt p : Nat} {tc : Nat → Nat} (h : thOk n tc nt p = true) : (if 48 ≤ cc n tc p ∧ cc n tc p ≤ 57 ∧ 48 ≤ cc n tc (p + 1) ∧ cc n tc (p + 1) ≤ 57 then nI (10 * (cc n tc p - 48) + (cc n tc (p + 1) - 48)) else -1) = nI (thV n tc p) := by
  unfold thOk dg at h
  simp only [Bool.and_eq_true, decide_eq_true_eq] at h
  rw [if_pos ⟨h.1.1.1, h.1.1.2, h.1.2.1, h.1.2.2⟩]
  rfl
theorem c_thingNo (hR : tRef h d R) (hT : TXc I n tc) (hp : p < 900) (hd3 : d ≠ 3) (h1 : I d 1 = nI nt) (hn : nt < 1000) : tEv E 30 0 [.ref 3, tm_dum, tm_dum] [] (mS (hx I p) J R) Q = Q (some (if thOk n tc nt p = true then nI (thV n tc p) else -1)) (mS (hx I (p + 2)) J R) := by
  have p1 := fun {Q} => c_pop3 (E := E) (Q := Q) (J := J) hR hT (show p < 1000 by omega)
  have p2 := fun {Q} => c_pop3 (E := E) (Q := Q) (J := J) hR hT (show p + 1 < 1000 by omega)
  have hnum := fun {Q} {M} => c_numberOf (E := E) (Q := Q) (M := M) (cc_c (p := p) hT) (cc_c (p := p + 1) hT)
  have hit := fun {Q} {x} => c_isThing3 (E := E) (Q := Q) (I := hx I (p + 1 + 1)) (J := J) (nt := nt) (x := x) hR (by rw [hx_x hd3]; exact h1)
  simp only [e_30_0, e_30_1, e_30_4, e_30_5, e_30_6, e_30_7, e_30_10, e_30_13, e_30_14, e_30_15, e_30_16, e_30_19, e_30_22, e_30_23, e_30_26, e_30_27, rf_0_0 hR, rf_0_1 hR, rf_0_2 hR, rf_0_3 hR, rf_0_4 hR, rf_0_5 hR, rf_0_6 hR, rf_1_0 hR, rf_3_0 hR, rf_3_2 hR, rf_4_3 hR, rf_4_4 hR, rf_4_5 hR, rf_4_6 hR, rf_4_7 hR, rf_4_8 hR, rf_4_9 hR, rf_12_1 hR, rf_13_3 hR, rf_13_4 hR, rf_13_5 hR, rf_13_6 hR, rf_13_7 hR, rf_13_8 hR, rf_13_9 hR, rf_21_0 hR, rf_21_1 hR, rf_24_0 hR, rf_25_0 hR, rf_26_0 hR, rf_26_1 hR, rf_26_2 hR, rf_26_3 hR, rf_26_4 hR, rf_26_5 hR, rf_26_6 hR, rf_26_7 hR, rf_27_0 hR, rf_27_1 hR, rf_30_0 hR, rf_30_1 hR, rf_33_0 hR, rf_33_1 hR, rf_36_0 hR, rf_36_1 hR, rf_39_0 hR, rf_39_1 hR, rf_42_0 hR, rf_42_1 hR, rf_45_0 hR, rf_45_1 hR, rf_48_0 hR, rf_48_1 hR, rf_51_0 hR, rf_51_1 hR, rf_51_6 hR, rf_51_7 hR, rf_h_3 hR, rf_d_3 hR, rf_h_4 hR, rf_d_4 hR, rf_h_5 hR, rf_d_5 hR, rf_h_6 hR, rf_d_6 hR, rf_h_7 hR, rf_d_7 hR, rf_h_8 hR, rf_d_8 hR, rf_h_9 hR, rf_d_9 hR, rf_12_0 hR, rf_3_1 hR, kn_0, kn_1, kn_2, kn_3, kn_4, kn_5, kn_6, kn_7, kn_8, kn_9, kn_10, kn_11, kn_12, kn_13, kn_14, kn_15, kn_16, kn_17, kn_18, kn_19, kn_20, kn_21, kn_22, kn_23, kn_24, kn_25, kn_26, kn_27, kn_28, kn_29, kn_30, kn_31, kn_32, kn_33, kn_34, kn_35, kn_36, kn_37, kn_38, kn_39, kn_40, kn_41, kn_42, kn_43, kn_44, kn_45, kn_46, kn_47, kn_48, kn_49, kn_50, kn_51, kn_52, kn_53, kn_54, kn_55, ln_2, ln_5, ln_6, ln_7, ln_8, ln_9, ln_10, ln_11, ln_14, ln_15, ln_16, ln_17, ln_18, ln_19, ln_20, ln_22, ln_23, ln_26, ln_28, ln_29, ln_31, ln_32, ln_34, ln_35, ln_37, ln_38, ln_40, ln_41, ln_43, ln_44, ln_46, ln_47, ln_49, ln_50, ln_52, kn_h hR, lt_h hR, kn_h1 hR, ln_h1 hR, lt_h1 hR, kn_h2 hR, ln_h2 hR, lt_h2 hR, kn_h3 hR, ln_h3 hR, lt_h3 hR, kn_h4 hR, ln_h4 hR, lt_h4 hR, kn_h5 hR, ln_h5 hR, lt_h5 hR, kn_h6 hR, ln_h6 hR, lt_h6 hR, kn_h7 hR, ln_h7 hR, lt_h7 hR, kn_d hR, lt_d hR, kn_d1 hR, ln_d1 hR, lt_d1 hR, kn_d2 hR, ln_d2 hR, lt_d2 hR, kn_d3 hR, ln_d3 hR, lt_d3 hR, kn_d4 hR, ln_d4 hR, lt_d4 hR, kn_d5 hR, ln_d5 hR, lt_d5 hR, kn_d6 hR, ln_d6 hR, lt_d6 hR, kn_d7 hR, ln_d7 hR, lt_d7 hR, va_rf_some, push_s, push_n, nb0, nb1, nbb, Nat.reduceLT, p1, p2, hnum, hit, th_num hn, b2i_0]
  cases c : thOk n tc nt p with
  | true => rw [if_neg (by decide), if_pos rfl, th_val c]
  | false => rw [if_pos rfl, if_neg (by decide)]
theorem c_readAdj3 (hR : tRef h d R) (hT : TXc I n tc) (hp : p < 900) : tEv E 23 0 [.ref 3, tm_dum, tm_dum] [] (mS (hx I p) J R) Q = Q (some (if adOk n tc p = true then adV n tc p else -1)) (mS (hx I (p + 1)) J R) := by
  have p1 := fun {Q} => c_pop3 (E := E) (Q := Q) (J := J) hR hT (show p < 1000 by omega)
  have hc := cc_c (p := p) hT
  have e1 : (nI (cc n tc p) = 45) = (cc n tc p = 45) := propext (nI_eq (b := 45) (by omega) (by omega))
  simp only [e_23_0, e_23_1, e_23_4, e_23_5, e_23_6, e_23_8, e_23_11, e_23_13, e_23_14, e_23_15, e_23_17, e_23_18, e_23_19, e_23_20, e_23_23, e_23_24, e_23_26, e_23_29, e_23_30, e_23_33, e_23_34, rf_0_0 hR, rf_0_1 hR, rf_0_2 hR, rf_0_3 hR, rf_0_4 hR, rf_0_5 hR, rf_0_6 hR, rf_1_0 hR, rf_3_0 hR, rf_3_2 hR, rf_4_3 hR, rf_4_4 hR, rf_4_5 hR, rf_4_6 hR, rf_4_7 hR, rf_4_8 hR, rf_4_9 hR, rf_12_1 hR, rf_13_3 hR, rf_13_4 hR, rf_13_5 hR, rf_13_6 hR, rf_13_7 hR, rf_13_8 hR, rf_13_9 hR, rf_21_0 hR, rf_21_1 hR, rf_24_0 hR, rf_25_0 hR, rf_26_0 hR, rf_26_1 hR, rf_26_2 hR, rf_26_3 hR, rf_26_4 hR, rf_26_5 hR, rf_26_6 hR, rf_26_7 hR, rf_27_0 hR, rf_27_1 hR, rf_30_0 hR, rf_30_1 hR, rf_33_0 hR, rf_33_1 hR, rf_36_0 hR, rf_36_1 hR, rf_39_0 hR, rf_39_1 hR, rf_42_0 hR, rf_42_1 hR, rf_45_0 hR, rf_45_1 hR, rf_48_0 hR, rf_48_1 hR, rf_51_0 hR, rf_51_1 hR, rf_51_6 hR, rf_51_7 hR, rf_h_3 hR, rf_d_3 hR, rf_h_4 hR, rf_d_4 hR, rf_h_5 hR, rf_d_5 hR, rf_h_6 hR, rf_d_6 hR, rf_h_7 hR, rf_d_7 hR, rf_h_8 hR, rf_d_8 hR, rf_h_9 hR, rf_d_9 hR, rf_12_0 hR, rf_3_1 hR, kn_0, kn_1, kn_2, kn_3, kn_4, kn_5, kn_6, kn_7, kn_8, kn_9, kn_10, kn_11, kn_12, kn_13, kn_14, kn_15, kn_16, kn_17, kn_18, kn_19, kn_20, kn_21, kn_22, kn_23, kn_24, kn_25, kn_26, kn_27, kn_28, kn_29, kn_30, kn_31, kn_32, kn_33, kn_34, kn_35, kn_36, kn_37, kn_38, kn_39, kn_40, kn_41, kn_42, kn_43, kn_44, kn_45, kn_46, kn_47, kn_48, kn_49, kn_50, kn_51, kn_52, kn_53, kn_54, kn_55, ln_2, ln_5, ln_6, ln_7, ln_8, ln_9, ln_10, ln_11, ln_14, ln_15, ln_16, ln_17, ln_18, ln_19, ln_20, ln_22, ln_23, ln_26, ln_28, ln_29, ln_31, ln_32, ln_34, ln_35, ln_37, ln_38, ln_40, ln_41, ln_43, ln_44, ln_46, ln_47, ln_49, ln_50, ln_52, kn_h hR, lt_h hR, kn_h1 hR, ln_h1 hR, lt_h1 hR, kn_h2 hR, ln_h2 hR, lt_h2 hR, kn_h3 hR, ln_h3 hR, lt_h3 hR, kn_h4 hR, ln_h4 hR, lt_h4 hR, kn_h5 hR, ln_h5 hR, lt_h5 hR, kn_h6 hR, ln_h6 hR, lt_h6 hR, kn_h7 hR, ln_h7 hR, lt_h7 hR, kn_d hR, lt_d hR, kn_d1 hR, ln_d1 hR, lt_d1 hR, kn_d2 hR, ln_d2 hR, lt_d2 hR, kn_d3 hR, ln_d3 hR, lt_d3 hR, kn_d4 hR, ln_d4 hR, lt_d4 hR, kn_d5 hR, ln_d5 hR, lt_d5 hR, kn_d6 hR, ln_d6 hR, lt_d6 hR, kn_d7 hR, ln_d7 hR, lt_d7 hR, va_rf_some, push_s, push_n, nb0, nb1, nbb, Nat.reduceLT, p1, e1]
  unfold adOk adV
  by_cases c : cc n tc p = 45
  · simp [c]
  · have e2 : (nI (cc n tc p) - 97 < 0) = (cc n tc p < 97) := by
      apply propext
      rw [Int32.lt_iff_toInt_lt, show (nI (cc n tc p) - 97).toInt = (cc n tc p : Int) - 97 from pk_sub_toInt (b := 97) (by omega) (by decide), show (0 : Int32).toInt = 0 from rfl]
      omega
    have e3 : (nI (cc n tc p) - 97 < 8) = (cc n tc p < 105) := by
      apply propext
      rw [Int32.lt_iff_toInt_lt, show (nI (cc n tc p) - 97).toInt = (cc n tc p : Int) - 97 from pk_sub_toInt (b := 97) (by omega) (by decide), show (8 : Int32).toInt = 8 from rfl]
      omega
    rw [if_neg c]
    simp only [e2, e3, decide_eq_false c, Bool.false_or, decide_eq_true_eq]
    by_cases c2 : cc n tc p < 97
    · rw [if_pos c2, if_neg (show ¬ (97 ≤ cc n tc p ∧ cc n tc p ≤ 104) by omega)]
    · rw [if_neg c2]
      by_cases c3 : cc n tc p < 105
      · rw [if_pos c3, if_pos (show 97 ≤ cc n tc p ∧ cc n tc p ≤ 104 by omega), if_neg c, show nI (cc n tc p) - 97 = nI (cc n tc p - 97) from pk_sub (b := 97) (by omega)]
      · rw [if_neg c3, if_neg (show ¬ (97 ≤ cc n tc p ∧ cc n tc p ≤ 104) by omega)]
theorem i8_id : ∀ c, c < 127 → (nI c).toInt8.toInt32 = nI c := by decide
theorem ix_loop {c : Nat} (hc : c < 127) : ∀ j i, i + j = 4 → tEv E 33 7 [.ref 1100, .int (nI c), .int 0, .int 4, .int (nI c), .int (nI i)] [] (M, 0, 0) Q = Q (some (if i ≤ 0 ∧ c = 110 then 0 else if i ≤ 1 ∧ c = 115 then 1 else if i ≤ 2 ∧ c = 101 then 2 else if i ≤ 3 ∧ c = 119 then 3 else -1)) (M, 0, 0)
  | 0, i, hj => by
    obtain rfl : i = 4 := by omega
    have hn : (nI 4 < (4 : Int32)) = False := eq_false (by decide)
    rw [e_33_7]
    simp only [e_33_9, e_33_10, e_33_13, e_33_14, e_33_16, e_33_17, e_33_19, e_33_22, e_33_24, e_33_25, e_33_28, e_33_31, e_33_32, hn, if_false]
    rw [if_neg (by omega), if_neg (by omega), if_neg (by omega), if_neg (by omega)]
  | j + 1, i, hj => by
    have hn : (nI i < (4 : Int32)) = True := eq_true (nI_lt (b := 4) (by omega) (by omega))
    have ih := ix_loop hc j (i + 1) (by omega)
    have hix := inb_nI (j := i) (n := 4) (by omega) (by decide)
    have hcl := nI_cl (n := i) (by omega)
    have h0 : (1100 ≤ 1100 ∧ 1100 < 1103) = True := eq_true (by decide)
    have hl : tm_len.getD (1100 - 1100) 0 = 4 := rfl
    have nI1 : nI i + 1 = nI (i + 1) := nI_1 i
    rw [e_33_7]
    simp only [e_33_9, e_33_10, e_33_13, e_33_14, e_33_16, Nat.reduceLeDiff, Nat.reduceLT, and_self, hn, if_true, hl, hix, hcl]
    have hb : (tm_byt.getD (1100 - 1100) []).getD i 0 = nI (chN 0 i) := by
      rcases (by omega : i = 0 ∨ i = 1 ∨ i = 2 ∨ i = 3) with e | e | e | e <;> rw [e] <;> rfl
    have hlt : chN 0 i < 127 := by
      rcases (by omega : i = 0 ∨ i = 1 ∨ i = 2 ∨ i = 3) with e | e | e | e <;> rw [e] <;> decide
    have e : (nI (chN 0 i) = nI c) = (chN 0 i = c) := propext (nI_eq (by omega) (by omega))
    simp only [e_33_17, e_33_19, e_33_22, e_33_24, e_33_25, e_33_28, e_33_31, e_33_32, hb, e, nI1]
    rcases (by omega : i = 0 ∨ i = 1 ∨ i = 2 ∨ i = 3) with q | q | q | q
    · subst q
      by_cases k : c = 110
      · rw [if_pos (show chN 0 0 = c by rw [k]; rfl)]
        simp [k]
        rfl
      · rw [if_neg (show ¬ chN 0 0 = c from fun g => k g.symm), ih]
        congr 2
        by_cases k1 : c = 110 <;> by_cases k2 : c = 115 <;> by_cases k3 : c = 101 <;> by_cases k4 : c = 119 <;> simp_all
    · subst q
      by_cases k : c = 115
      · rw [if_pos (show chN 0 1 = c by rw [k]; rfl)]
        simp [k]
        rfl
      · rw [if_neg (show ¬ chN 0 1 = c from fun g => k g.symm), ih]
        congr 2
        by_cases k1 : c = 110 <;> by_cases k2 : c = 115 <;> by_cases k3 : c = 101 <;> by_cases k4 : c = 119 <;> simp_all
    · subst q
      by_cases k : c = 101
      · rw [if_pos (show chN 0 2 = c by rw [k]; rfl)]
        simp [k]
        rfl
      · rw [if_neg (show ¬ chN 0 2 = c from fun g => k g.symm), ih]
        congr 2
        by_cases k1 : c = 110 <;> by_cases k2 : c = 115 <;> by_cases k3 : c = 101 <;> by_cases k4 : c = 119 <;> simp_all
    · subst q
      by_cases k : c = 119
      · rw [if_pos (show chN 0 3 = c by rw [k]; rfl)]
        simp [k]
        rfl
      · rw [if_neg (show ¬ chN 0 3 = c from fun g => k g.symm), ih]
        congr 2
        by_cases k1 : c = 110 <;> by_cases k2 : c = 115 <;> by_cases k3 : c = 101 <;> by_cases k4 : c = 119 <;> simp_all
/-- n, s, e, w -/
theorem c_side {c : Nat} (hc : c < 127) : tEv E 36 0 [.ref 1000, .int (nI c)] [] (M, 0, 0) Q = Q (some (if wdOk c = true then nI (wdN c) else -1)) (M, 0, 0) := by
  have hnb : narrow .boolean (.int 1) = .int 1 := by decide
  have l0 : (nI c < 0) = False := eq_false (nI_pos (by omega))
  have l1 : ((255 : Int32) < nI c) = False := eq_false (fun q => by have := (nI_ltI (a := 255) (by omega) (by omega)).mp q; omega)
  have hl : tm_len.getD (1100 - 1100) 0 = 4 := rfl
  have hs := fun {Q} {M} => c_strlen (E := E) (Q := Q) (M := M) (s := 0) (by decide)
  rw [show 1000 + 0 = 1000 from rfl, show nI (tm_len.getD 0 0) = 4 from rfl] at hs
  have lp := fun {Q} {M} => ix_loop (E := E) (Q := Q) (M := M) hc 4 0 (by omega)
  rw [show nI 0 = (0 : Int32) from rfl] at lp
  simp only [e_36_0, e_36_1, e_36_2, e_36_3, e_36_6, e_35_0, e_35_1, e_35_4, e_35_7, e_35_8, e_35_11, e_35_12, e_35_13, e_35_14, e_35_17, e_35_20, e_35_23, e_35_24, e_35_27, e_35_28, e_35_29, e_35_30, e_35_36, e_34_0, e_34_1, e_34_4, e_34_7, e_34_8, e_34_9, e_34_10, e_34_11, e_34_14, e_34_15, e_34_16, e_34_17, e_34_18, e_34_21, e_34_22, e_34_23, e_34_24, e_34_27, e_34_28, e_34_29, e_34_30, e_34_31, e_34_32, e_34_33, e_34_36, e_33_0, e_33_1, e_33_2, e_33_4, e_33_5, e_32_0, e_32_1, e_32_4, e_32_5, e_32_8, e_32_11, e_32_12, e_32_15, e_32_16, e_13_0, e_13_3, e_13_6, e_13_7, e_13_10, e_13_13, e_13_14, e_13_17, e_13_18, va_rf_some, push_s, push_n, nb0, nb1, nbb, Nat.reduceLT, Nat.reduceLeDiff, and_self, Nat.reduceAdd, hs, hnb, l0, l1, hl, i8_id c hc, if_false, show ((1 : Int32) = 0) = False from eq_false (by decide), show ((0 : Int32) = 0) = True from eq_true rfl, if_true, show Int32.ofNat 4 = 4 from rfl, Int32.lt_irrefl, show ((0 : Int32) < 4) = True from eq_true (by decide), lp]
  congr 2
  unfold wdOk wdN
  by_cases k1 : c = 110
  · simp [k1]; rfl
  · by_cases k2 : c = 115
    · simp [k2]; rfl
    · by_cases k3 : c = 101
      · simp [k3]; rfl
      · by_cases k4 : c = 119
        · simp [k4]; rfl
        · simp [k1, k2, k3, k4]
end J1
