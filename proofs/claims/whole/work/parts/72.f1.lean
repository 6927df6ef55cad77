/-! ===== the class: what phrases fit ===== -/
def nmq (I : Nat → Nat → Int32) (c : Nat) (n a : Int32) : Bool := (decide (I c 1 = -4) || decide (I c 1 = n)) && (decide (I c 2 = -4) || decide (I c 2 = a))
/-- what a phrase tells -/
def cph (I : Nat → Nat → Int32) (c t : Nat) : Bool := if I c 0 = 0 then nmq I c (I 59 t) (I 60 t) else decide (nI t = I 57 50)
section F1
variable {E : tm_Env} {Q : Option Int32 → tm_St → Prop} {I : Nat → Nat → Int32} {J : Nat → Nat → Int64} {R : Nat → Nat → Option Nat} {h d : Nat} {nr nt y : Nat} {pl : Nat → Nat}
theorem c_names (hR : tRef h d R) {c : Nat} (hc : c = 53 ∨ c = 54) {n a : Int32} : tEv E 87 0 [.ref c, .int n, .int a] [] (mS I J R) Q = Q (some (b2i (nmq I c n a))) (mS I J R) := by
  have hk : tm_kn tL c = some 5 := by rcases hc with rfl | rfl <;> rfl
  simp only [e_87_0, e_87_1, e_87_4, e_87_6, e_87_9, e_87_10, e_87_13, e_87_14, e_87_17, e_87_18, e_87_21, e_87_23, e_87_26, e_87_27, e_87_30, e_87_31, e_87_34, e_87_35, e_87_38, e_87_39, rf_0_0 hR, rf_0_1 hR, rf_0_2 hR, rf_0_3 hR, rf_0_4 hR, rf_0_5 hR, rf_0_6 hR, rf_1_0 hR, rf_3_0 hR, rf_3_2 hR, rf_4_3 hR, rf_4_4 hR, rf_4_5 hR, rf_4_6 hR, rf_4_7 hR, rf_4_8 hR, rf_4_9 hR, rf_12_1 hR, rf_13_3 hR, rf_13_4 hR, rf_13_5 hR, rf_13_6 hR, rf_13_7 hR, rf_13_8 hR, rf_13_9 hR, rf_21_0 hR, rf_21_1 hR, rf_24_0 hR, rf_25_0 hR, rf_26_0 hR, rf_26_1 hR, rf_26_2 hR, rf_26_3 hR, rf_26_4 hR, rf_26_5 hR, rf_26_6 hR, rf_26_7 hR, rf_27_0 hR, rf_27_1 hR, rf_30_0 hR, rf_30_1 hR, rf_33_0 hR, rf_33_1 hR, rf_36_0 hR, rf_36_1 hR, rf_39_0 hR, rf_39_1 hR, rf_42_0 hR, rf_42_1 hR, rf_45_0 hR, rf_45_1 hR, rf_48_0 hR, rf_48_1 hR, rf_51_0 hR, rf_51_1 hR, rf_51_6 hR, rf_51_7 hR, rf_h_3 hR, rf_d_3 hR, rf_h_4 hR, rf_d_4 hR, rf_h_5 hR, rf_d_5 hR, rf_h_6 hR, rf_d_6 hR, rf_h_7 hR, rf_d_7 hR, rf_h_8 hR, rf_d_8 hR, rf_h_9 hR, rf_d_9 hR, rf_12_0 hR, rf_3_1 hR, kn_0, kn_1, kn_2, kn_3, kn_4, kn_5, kn_6, kn_7, kn_8, kn_9, kn_10, kn_11, kn_12, kn_13, kn_14, kn_15, kn_16, kn_17, kn_18, kn_19, kn_20, kn_21, kn_22, kn_23, kn_24, kn_25, kn_26, kn_27, kn_28, kn_29, kn_30, kn_31, kn_32, kn_33, kn_34, kn_35, kn_36, kn_37, kn_38, kn_39, kn_40, kn_41, kn_42, kn_43, kn_44, kn_45, kn_46, kn_47, kn_48, kn_49, kn_50, kn_51, kn_52, kn_53, kn_54, kn_55, ln_2, ln_5, ln_6, ln_7, ln_8, ln_9, ln_10, ln_11, ln_14, ln_15, ln_16, ln_17, ln_18, ln_19, ln_20, ln_22, ln_23, ln_26, ln_28, ln_29, ln_31, ln_32, ln_34, ln_35, ln_37, ln_38, ln_40, ln_41, ln_43, ln_44, ln_46, ln_47, ln_49, ln_50, ln_52, kn_h hR, lt_h hR, kn_h1 hR, ln_h1 hR, lt_h1 hR, kn_h2 hR, ln_h2 hR, lt_h2 hR, kn_h3 hR, ln_h3 hR, lt_h3 hR, kn_h4 hR, ln_h4 hR, lt_h4 hR, kn_h5 hR, ln_h5 hR, lt_h5 hR, kn_h6 hR, ln_h6 hR, lt_h6 hR, kn_h7 hR, ln_h7 hR, lt_h7 hR, kn_d hR, lt_d hR, kn_d1 hR, ln_d1 hR, lt_d1 hR, kn_d2 hR, ln_d2 hR, lt_d2 hR, kn_d3 hR, ln_d3 hR, lt_d3 hR, kn_d4 hR, ln_d4 hR, lt_d4 hR, kn_d5 hR, ln_d5 hR, lt_d5 hR, kn_d6 hR, ln_d6 hR, lt_d6 hR, kn_d7 hR, ln_d7 hR, lt_d7 hR, va_rf_some, push_s, push_n, nb0, nb1, nbb, Nat.reduceLT, hk]
  unfold nmq
  by_cases c1 : I c 1 = -4 <;> by_cases c2 : I c 1 = n <;> by_cases c3 : I c 2 = -4 <;> by_cases c4 : I c 2 = a <;> simp only [c1, c2, c3, c4, if_true, if_false, decide_true, decide_false, Bool.true_or, Bool.false_or, Bool.true_and, Bool.false_and, Bool.or_true, Bool.or_false, Bool.and_true, Bool.and_false] <;> first | rfl | simp_all [b2i]
def nmT (I : Nat → Nat → Int32) (c nt t : Nat) : Bool := nmq I c (if t < nt then I 59 t else -4) (if t < nt then I 60 t else -4)
theorem c_named_loop (hR : tRef h d R) (hC : RR I h nr nt y pl) {c : Nat} (hc : c = 53 ∨ c = 54) : ∀ j i acc, i + j = 16 → acc = so (nmT I c nt) i → tEv E 88 4 [.ref 12, .ref c, .int acc, .int (nI i)] [] (mS I J R) Q = Q (some (so (nmT I c nt) 16)) (mS I J R)
  | 0, i, acc, hj, ha => by
    obtain rfl : i = 16 := by omega
    have hn : (nI 16 < (16 : Int32)) = False := eq_false (by decide)
    rw [e_88_4]
    simp only [e_88_0, e_88_1, e_88_2, e_88_3, e_88_5, e_88_7, e_88_10, e_88_11, e_88_12, e_88_15, e_88_18, e_88_19, e_88_20, e_88_21, e_88_24, e_88_27, e_88_28, e_88_29, e_88_32, e_88_35, e_88_36, e_88_37, e_88_38, e_88_39, e_88_40, e_88_41, e_88_44, e_88_47, e_88_48, hn, if_false]
    rw [ha]
  | j + 1, i, acc, hj, ha => by
    have hn : (nI i < (16 : Int32)) = True := eq_true (nI_lt (b := 16) (by omega) (by omega))
    have hix := inb_nI (j := i) (n := 16) (by omega) (by decide)
    have hcl := nI_cl (n := i) (by omega)
    have hk : tm_kn tL c = some 5 := by rcases hc with rfl | rfl <;> rfl
    have hlt : c < 1000 := by omega
    have h1 := hC.2.2.1.2.1.2.2.1 i (by omega)
    have h2 := hC.2.2.1.2.1.2.2.2.1 i (by omega)
    have ih := fun acc' e => c_named_loop hR hC hc j (i + 1) acc' (by omega) e
    rw [e_88_4]
    simp only [e_88_0, e_88_1, e_88_2, e_88_3, e_88_5, e_88_7, e_88_10, e_88_11, e_88_12, e_88_15, e_88_18, e_88_19, e_88_20, e_88_21, e_88_24, e_88_27, e_88_28, e_88_29, e_88_32, e_88_35, e_88_36, e_88_37, e_88_38, e_88_39, e_88_40, e_88_41, e_88_44, e_88_47, e_88_48, rf_0_0 hR, rf_0_1 hR, rf_0_2 hR, rf_0_3 hR, rf_0_4 hR, rf_0_5 hR, rf_0_6 hR, rf_1_0 hR, rf_3_0 hR, rf_3_2 hR, rf_4_3 hR, rf_4_4 hR, rf_4_5 hR, rf_4_6 hR, rf_4_7 hR, rf_4_8 hR, rf_4_9 hR, rf_12_1 hR, rf_13_3 hR, rf_13_4 hR, rf_13_5 hR, rf_13_6 hR, rf_13_7 hR, rf_13_8 hR, rf_13_9 hR, rf_21_0 hR, rf_21_1 hR, rf_24_0 hR, rf_25_0 hR, rf_26_0 hR, rf_26_1 hR, rf_26_2 hR, rf_26_3 hR, rf_26_4 hR, rf_26_5 hR, rf_26_6 hR, rf_26_7 hR, rf_27_0 hR, rf_27_1 hR, rf_30_0 hR, rf_30_1 hR, rf_33_0 hR, rf_33_1 hR, rf_36_0 hR, rf_36_1 hR, rf_39_0 hR, rf_39_1 hR, rf_42_0 hR, rf_42_1 hR, rf_45_0 hR, rf_45_1 hR, rf_48_0 hR, rf_48_1 hR, rf_51_0 hR, rf_51_1 hR, rf_51_6 hR, rf_51_7 hR, rf_h_3 hR, rf_d_3 hR, rf_h_4 hR, rf_d_4 hR, rf_h_5 hR, rf_d_5 hR, rf_h_6 hR, rf_d_6 hR, rf_h_7 hR, rf_d_7 hR, rf_h_8 hR, rf_d_8 hR, rf_h_9 hR, rf_d_9 hR, rf_12_0 hR, rf_3_1 hR, kn_0, kn_1, kn_2, kn_3, kn_4, kn_5, kn_6, kn_7, kn_8, kn_9, kn_10, kn_11, kn_12, kn_13, kn_14, kn_15, kn_16, kn_17, kn_18, kn_19, kn_20, kn_21, kn_22, kn_23, kn_24, kn_25, kn_26, kn_27, kn_28, kn_29, kn_30, kn_31, kn_32, kn_33, kn_34, kn_35, kn_36, kn_37, kn_38, kn_39, kn_40, kn_41, kn_42, kn_43, kn_44, kn_45, kn_46, kn_47, kn_48, kn_49, kn_50, kn_51, kn_52, kn_53, kn_54, kn_55, ln_2, ln_5, ln_6, ln_7, ln_8, ln_9, ln_10, ln_11, ln_14, ln_15, ln_16, ln_17, ln_18, ln_19, ln_20, ln_22, ln_23, ln_26, ln_28, ln_29, ln_31, ln_32, ln_34, ln_35, ln_37, ln_38, ln_40, ln_41, ln_43, ln_44, ln_46, ln_47, ln_49, ln_50, ln_52, kn_h hR, lt_h hR, kn_h1 hR, ln_h1 hR, lt_h1 hR, kn_h2 hR, ln_h2 hR, lt_h2 hR, kn_h3 hR, ln_h3 hR, lt_h3 hR, kn_h4 hR, ln_h4 hR, lt_h4 hR, kn_h5 hR, ln_h5 hR, lt_h5 hR, kn_h6 hR, ln_h6 hR, lt_h6 hR, kn_h7 hR, ln_h7 hR, lt_h7 hR, kn_d hR, lt_d hR, kn_d1 hR, ln_d1 hR, lt_d1 hR, kn_d2 hR, ln_d2 hR, lt_d2 hR, kn_d3 hR, ln_d3 hR, lt_d3 hR, kn_d4 hR, ln_d4 hR, lt_d4 hR, kn_d5 hR, ln_d5 hR, lt_d5 hR, kn_d6 hR, ln_d6 hR, lt_d6 hR, kn_d7 hR, ln_d7 hR, lt_d7 hR, va_rf_some, push_s, push_n, nb0, nb1, nbb, Nat.reduceLT, hn, if_true, hk, hlt, hix, hcl, c_names hR hc, b2i_0, nI_1, h1, h2]
    cases q : nmq I c (if i < nt then I 59 i else -4) (if i < nt then I 60 i else -4) with
    | false =>
      rw [if_pos rfl]
      exact ih _ (by rw [so, ha, if_neg (show ¬ nmT I c nt i = true by unfold nmT; rw [q]; decide), Int32.or_zero])
    | true =>
      rw [if_neg (by decide)]
      exact ih _ (by rw [so, ha, if_pos (show nmT I c nt i = true by unfold nmT; exact q)])
theorem c_named (hR : tRef h d R) (hC : RR I h nr nt y pl) {c : Nat} (hc : c = 53 ∨ c = 54) : tEv E 88 0 [.ref 12, .ref c, tm_dum, tm_dum] [] (mS I J R) Q = Q (some (so (nmT I c nt) 16)) (mS I J R) := by
  simp only [e_88_0, e_88_1, e_88_2, e_88_3]
  exact c_named_loop hR hC hc 16 0 0 (by omega) rfl
theorem c_fitting (hR : tRef h d R) (hW : RW I h nr nt y pl) {c : Nat} (hc : c = 53 ∨ c = 54) {s : Int32} (hs : ∀ t, nt ≤ t → t < 32 → bt s t = false) : tEv E 125 0 [.ref 12, .ref c, .int s] [] (mS I J R) Q = Q (some (so (fun t => cph I c t && bt s t) nt)) (mS I J R) := by
  have hC := hW.1
  have h16 := RR_16 hC
  have hk : tm_kn tL c = some 5 := by rcases hc with rfl | rfl <;> rfl
  have hlt : c < 1000 := by omega
  have h7 : I 21 7 = I 57 50 := hC.2.2.2.1.2.2.2.1
  simp only [e_125_0, e_125_1, e_125_4, e_125_7, e_125_8, e_125_9, e_125_10, e_125_13, e_125_14, e_125_15, e_125_16, e_125_19, e_125_22, e_125_24, e_125_27, e_125_28, e_125_31, e_125_32, e_125_33, e_125_34, e_125_37, e_125_40, e_125_41, e_125_42, rf_0_0 hR, rf_0_1 hR, rf_0_2 hR, rf_0_3 hR, rf_0_4 hR, rf_0_5 hR, rf_0_6 hR, rf_1_0 hR, rf_3_0 hR, rf_3_2 hR, rf_4_3 hR, rf_4_4 hR, rf_4_5 hR, rf_4_6 hR, rf_4_7 hR, rf_4_8 hR, rf_4_9 hR, rf_12_1 hR, rf_13_3 hR, rf_13_4 hR, rf_13_5 hR, rf_13_6 hR, rf_13_7 hR, rf_13_8 hR, rf_13_9 hR, rf_21_0 hR, rf_21_1 hR, rf_24_0 hR, rf_25_0 hR, rf_26_0 hR, rf_26_1 hR, rf_26_2 hR, rf_26_3 hR, rf_26_4 hR, rf_26_5 hR, rf_26_6 hR, rf_26_7 hR, rf_27_0 hR, rf_27_1 hR, rf_30_0 hR, rf_30_1 hR, rf_33_0 hR, rf_33_1 hR, rf_36_0 hR, rf_36_1 hR, rf_39_0 hR, rf_39_1 hR, rf_42_0 hR, rf_42_1 hR, rf_45_0 hR, rf_45_1 hR, rf_48_0 hR, rf_48_1 hR, rf_51_0 hR, rf_51_1 hR, rf_51_6 hR, rf_51_7 hR, rf_h_3 hR, rf_d_3 hR, rf_h_4 hR, rf_d_4 hR, rf_h_5 hR, rf_d_5 hR, rf_h_6 hR, rf_d_6 hR, rf_h_7 hR, rf_d_7 hR, rf_h_8 hR, rf_d_8 hR, rf_h_9 hR, rf_d_9 hR, rf_12_0 hR, rf_3_1 hR, kn_0, kn_1, kn_2, kn_3, kn_4, kn_5, kn_6, kn_7, kn_8, kn_9, kn_10, kn_11, kn_12, kn_13, kn_14, kn_15, kn_16, kn_17, kn_18, kn_19, kn_20, kn_21, kn_22, kn_23, kn_24, kn_25, kn_26, kn_27, kn_28, kn_29, kn_30, kn_31, kn_32, kn_33, kn_34, kn_35, kn_36, kn_37, kn_38, kn_39, kn_40, kn_41, kn_42, kn_43, kn_44, kn_45, kn_46, kn_47, kn_48, kn_49, kn_50, kn_51, kn_52, kn_53, kn_54, kn_55, ln_2, ln_5, ln_6, ln_7, ln_8, ln_9, ln_10, ln_11, ln_14, ln_15, ln_16, ln_17, ln_18, ln_19, ln_20, ln_22, ln_23, ln_26, ln_28, ln_29, ln_31, ln_32, ln_34, ln_35, ln_37, ln_38, ln_40, ln_41, ln_43, ln_44, ln_46, ln_47, ln_49, ln_50, ln_52, kn_h hR, lt_h hR, kn_h1 hR, ln_h1 hR, lt_h1 hR, kn_h2 hR, ln_h2 hR, lt_h2 hR, kn_h3 hR, ln_h3 hR, lt_h3 hR, kn_h4 hR, ln_h4 hR, lt_h4 hR, kn_h5 hR, ln_h5 hR, lt_h5 hR, kn_h6 hR, ln_h6 hR, lt_h6 hR, kn_h7 hR, ln_h7 hR, lt_h7 hR, kn_d hR, lt_d hR, kn_d1 hR, ln_d1 hR, lt_d1 hR, kn_d2 hR, ln_d2 hR, lt_d2 hR, kn_d3 hR, ln_d3 hR, lt_d3 hR, kn_d4 hR, ln_d4 hR, lt_d4 hR, kn_d5 hR, ln_d5 hR, lt_d5 hR, kn_d6 hR, ln_d6 hR, lt_d6 hR, kn_d7 hR, ln_d7 hR, lt_d7 hR, va_rf_some, push_s, push_n, nb0, nb1, nbb, Nat.reduceLT, hk, hlt, c_named hR hC hc, h7]
  by_cases c1 : I c 0 = 0
  · rw [if_pos c1]
    congr 2
    apply b_ext
    intro t ht
    rw [b_and, so_bt _ (by decide) t ht, so_bt _ (by omega) t ht]
    unfold cph nmT
    rw [if_pos c1]
    by_cases c2 : t < nt
    · rw [if_pos c2, if_pos c2, decide_eq_true c2, decide_eq_true (show t < 16 by omega), Bool.true_and, Bool.true_and, Bool.and_comm]
    · rw [hs t (by omega) ht, decide_eq_false c2, Bool.false_and, Bool.false_and]
  · rw [if_neg c1]
    rcases hW.2.2.2 with q | ⟨x, hx, q⟩
    · rw [if_pos q]
      congr 2
      symm
      rw [so_zero (by omega)]
      intro t ht
      unfold cph
      rw [if_neg c1, q, decide_eq_false (nI_n4 (by omega)), Bool.false_and]
    · rw [q, if_neg (nI_n4 (by omega))]
      congr 2
      apply b_ext
      intro t ht
      rw [b_and, b_one (show x < 32 by omega) ht, so_bt _ (by omega) t ht]
      unfold cph
      rw [if_neg c1, q]
      have : decide (nI t = nI x) = decide (t = x) := by rw [decide_eq_decide, nI_eq (by omega) (by omega)]
      rw [this]
      by_cases c2 : t = x
      · subst c2
        rw [decide_eq_true hx, decide_eq_true rfl, Bool.true_and, Bool.true_and, Bool.and_true]
      · rw [decide_eq_false c2, Bool.and_false, Bool.false_and, Bool.and_false]
/-- doubt's cell when phrases were looked for -/
def fpd (I : Nat → Nat → Int32) (a : Nat) (f0 f1 : Int32) : Nat → Nat → Int32 := va_up I 55 (upd (upd (upd (upd (I 55) 1 (nI a)) 2 (if of2 a = true then 2 else 1)) 3 f0) 4 f1)
theorem msee_in {t : Nat} (h16 : nt ≤ 16) (h1 : nt ≤ t) (h2 : t < 32) : bt (msee I pl nt y) t = false := by
  unfold msee
  rw [so_bt _ (by omega) t h2, decide_eq_false (by omega), Bool.false_and]
theorem c_fitPhrases (hR : tRef h d R) (hW : RW I h nr nt y pl) {a : Nat} (ha : a < 12) (h4 : I 51 4 = nI a) : tEv E 126 0 [.ref 0, tm_dum] [] (mS I J R) Q = Q (some (b2i (anyb (fun t => cph I 53 t && mseen I pl nt y t) nt && (!(of2 a) || anyb (fun t => cph I 54 t && mseen I pl nt y t) nt)))) (mS (fpd I a (so (fun t => cph I 53 t && mseen I pl nt y t) nt) (if of2 a = true then so (fun t => cph I 54 t && mseen I pl nt y t) nt else 1)) J R) := by
  have hC := hW.1
  have h16 := RR_16 hC
  have hh := hR.2.2.1
  have es : ∀ c, so (fun t => cph I c t && bt (msee I pl nt y) t) nt = so (fun t => cph I c t && mseen I pl nt y t) nt := fun c => so_cong (fun t ht => by
    unfold msee
    rw [so_bt _ (by omega) t (by omega), decide_eq_true ht, Bool.true_and])
  have hag : ∀ F, agr I (va_up I 55 F) := fun F => ⟨⟨rfl, rfl⟩, fun k k1 k2 => by rw [vu, if_neg (by omega)], fun k k1 k2 => by rw [vu, if_neg (by omega)], fun _ _ => rfl, fun _ _ _ => rfl, fun _ _ => ⟨rfl, rfl⟩⟩
  have hW' : ∀ F, RW (va_up I 55 F) h nr nt y pl := fun F => RW_agr (by rcases hh with q | q <;> omega) (hag F) hW
  have f0 := fun {Q} F => c_fitting (E := E) (Q := Q) (I := va_up I 55 F) (J := J) hR (hW' F) (c := 53) (Or.inl rfl) (s := msee I pl nt y) (fun t h1 h2 => msee_in h16 h1 h2)
  have f1 := fun {Q} F => c_fitting (E := E) (Q := Q) (I := va_up I 55 F) (J := J) hR (hW' F) (c := 54) (Or.inr rfl) (s := msee I pl nt y) (fun t h1 h2 => msee_in h16 h1 h2)
  have g0 : ∀ F, so (fun t => cph (va_up I 55 F) 53 t && bt (msee I pl nt y) t) nt = so (fun t => cph I 53 t && mseen I pl nt y t) nt := fun F => es 53
  have g1 : ∀ F, so (fun t => cph (va_up I 55 F) 54 t && bt (msee I pl nt y) t) nt = so (fun t => cph I 54 t && mseen I pl nt y t) nt := fun F => es 54
  simp only [g0] at f0
  simp only [g1] at f1
  have z0 : ∀ c, (so (fun t => cph I c t && mseen I pl nt y t) nt = 0) = (anyb (fun t => cph I c t && mseen I pl nt y t) nt = false) := fun c => so_any (by omega)
  unfold fpd
  cases c2 : of2 a with
  | true =>
    simp only [e_126_0, e_126_1, e_126_4, e_126_7, e_126_8, e_126_9, e_126_12, e_126_13, e_126_16, e_126_19, e_126_22, e_126_23, e_126_26, e_126_27, e_126_30, e_126_33, e_126_36, e_126_39, e_126_40, e_126_43, e_126_44, e_126_47, e_126_48, e_126_51, e_126_52, e_126_55, e_126_56, e_126_59, e_126_62, e_126_63, e_126_66, e_126_69, e_126_70, e_126_73, e_126_74, e_126_77, e_126_80, e_126_81, e_126_84, e_126_85, e_126_88, e_126_89, e_126_92, e_126_95, e_126_96, e_126_99, e_126_102, e_126_103, e_126_106, e_126_107, e_126_110, e_126_113, e_126_116, e_126_117, e_126_120, e_126_123, e_126_126, e_126_127, e_126_130, e_126_131, rf_0_0 hR, rf_0_1 hR, rf_0_2 hR, rf_0_3 hR, rf_0_4 hR, rf_0_5 hR, rf_0_6 hR, rf_1_0 hR, rf_3_0 hR, rf_3_2 hR, rf_4_3 hR, rf_4_4 hR, rf_4_5 hR, rf_4_6 hR, rf_4_7 hR, rf_4_8 hR, rf_4_9 hR, rf_12_1 hR, rf_13_3 hR, rf_13_4 hR, rf_13_5 hR, rf_13_6 hR, rf_13_7 hR, rf_13_8 hR, rf_13_9 hR, rf_21_0 hR, rf_21_1 hR, rf_24_0 hR, rf_25_0 hR, rf_26_0 hR, rf_26_1 hR, rf_26_2 hR, rf_26_3 hR, rf_26_4 hR, rf_26_5 hR, rf_26_6 hR, rf_26_7 hR, rf_27_0 hR, rf_27_1 hR, rf_30_0 hR, rf_30_1 hR, rf_33_0 hR, rf_33_1 hR, rf_36_0 hR, rf_36_1 hR, rf_39_0 hR, rf_39_1 hR, rf_42_0 hR, rf_42_1 hR, rf_45_0 hR, rf_45_1 hR, rf_48_0 hR, rf_48_1 hR, rf_51_0 hR, rf_51_1 hR, rf_51_6 hR, rf_51_7 hR, rf_h_3 hR, rf_d_3 hR, rf_h_4 hR, rf_d_4 hR, rf_h_5 hR, rf_d_5 hR, rf_h_6 hR, rf_d_6 hR, rf_h_7 hR, rf_d_7 hR, rf_h_8 hR, rf_d_8 hR, rf_h_9 hR, rf_d_9 hR, rf_12_0 hR, rf_3_1 hR, kn_0, kn_1, kn_2, kn_3, kn_4, kn_5, kn_6, kn_7, kn_8, kn_9, kn_10, kn_11, kn_12, kn_13, kn_14, kn_15, kn_16, kn_17, kn_18, kn_19, kn_20, kn_21, kn_22, kn_23, kn_24, kn_25, kn_26, kn_27, kn_28, kn_29, kn_30, kn_31, kn_32, kn_33, kn_34, kn_35, kn_36, kn_37, kn_38, kn_39, kn_40, kn_41, kn_42, kn_43, kn_44, kn_45, kn_46, kn_47, kn_48, kn_49, kn_50, kn_51, kn_52, kn_53, kn_54, kn_55, ln_2, ln_5, ln_6, ln_7, ln_8, ln_9, ln_10, ln_11, ln_14, ln_15, ln_16, ln_17, ln_18, ln_19, ln_20, ln_22, ln_23, ln_26, ln_28, ln_29, ln_31, ln_32, ln_34, ln_35, ln_37, ln_38, ln_40, ln_41, ln_43, ln_44, ln_46, ln_47, ln_49, ln_50, ln_52, kn_h hR, lt_h hR, kn_h1 hR, ln_h1 hR, lt_h1 hR, kn_h2 hR, ln_h2 hR, lt_h2 hR, kn_h3 hR, ln_h3 hR, lt_h3 hR, kn_h4 hR, ln_h4 hR, lt_h4 hR, kn_h5 hR, ln_h5 hR, lt_h5 hR, kn_h6 hR, ln_h6 hR, lt_h6 hR, kn_h7 hR, ln_h7 hR, lt_h7 hR, kn_d hR, lt_d hR, kn_d1 hR, ln_d1 hR, lt_d1 hR, kn_d2 hR, ln_d2 hR, lt_d2 hR, kn_d3 hR, ln_d3 hR, lt_d3 hR, kn_d4 hR, ln_d4 hR, lt_d4 hR, kn_d5 hR, ln_d5 hR, lt_d5 hR, kn_d6 hR, ln_d6 hR, lt_d6 hR, kn_d7 hR, ln_d7 hR, lt_d7 hR, va_rf_some, push_s, push_n, nb0, nb1, nbb, Nat.reduceLT, c_seen hR hC, vu, ud, vu_vu, Nat.reduceEqDiff, if_true, if_false, h4, c_needsTwo (show a < 100 by omega), c2, b2i_0, Bool.true_eq_false, f0, f1, z0]
    cases q1 : anyb (fun t => cph I 53 t && mseen I pl nt y t) nt with
    | false => rfl
    | true =>
      cases q2 : anyb (fun t => cph I 54 t && mseen I pl nt y t) nt with
      | false => rfl
      | true => rfl
  | false =>
    simp only [e_126_0, e_126_1, e_126_4, e_126_7, e_126_8, e_126_9, e_126_12, e_126_13, e_126_16, e_126_19, e_126_22, e_126_23, e_126_26, e_126_27, e_126_30, e_126_33, e_126_36, e_126_39, e_126_40, e_126_43, e_126_44, e_126_47, e_126_48, e_126_51, e_126_52, e_126_55, e_126_56, e_126_59, e_126_62, e_126_63, e_126_66, e_126_69, e_126_70, e_126_73, e_126_74, e_126_77, e_126_80, e_126_81, e_126_84, e_126_85, e_126_88, e_126_89, e_126_92, e_126_95, e_126_96, e_126_99, e_126_102, e_126_103, e_126_106, e_126_107, e_126_110, e_126_113, e_126_116, e_126_117, e_126_120, e_126_123, e_126_126, e_126_127, e_126_130, e_126_131, rf_0_0 hR, rf_0_1 hR, rf_0_2 hR, rf_0_3 hR, rf_0_4 hR, rf_0_5 hR, rf_0_6 hR, rf_1_0 hR, rf_3_0 hR, rf_3_2 hR, rf_4_3 hR, rf_4_4 hR, rf_4_5 hR, rf_4_6 hR, rf_4_7 hR, rf_4_8 hR, rf_4_9 hR, rf_12_1 hR, rf_13_3 hR, rf_13_4 hR, rf_13_5 hR, rf_13_6 hR, rf_13_7 hR, rf_13_8 hR, rf_13_9 hR, rf_21_0 hR, rf_21_1 hR, rf_24_0 hR, rf_25_0 hR, rf_26_0 hR, rf_26_1 hR, rf_26_2 hR, rf_26_3 hR, rf_26_4 hR, rf_26_5 hR, rf_26_6 hR, rf_26_7 hR, rf_27_0 hR, rf_27_1 hR, rf_30_0 hR, rf_30_1 hR, rf_33_0 hR, rf_33_1 hR, rf_36_0 hR, rf_36_1 hR, rf_39_0 hR, rf_39_1 hR, rf_42_0 hR, rf_42_1 hR, rf_45_0 hR, rf_45_1 hR, rf_48_0 hR, rf_48_1 hR, rf_51_0 hR, rf_51_1 hR, rf_51_6 hR, rf_51_7 hR, rf_h_3 hR, rf_d_3 hR, rf_h_4 hR, rf_d_4 hR, rf_h_5 hR, rf_d_5 hR, rf_h_6 hR, rf_d_6 hR, rf_h_7 hR, rf_d_7 hR, rf_h_8 hR, rf_d_8 hR, rf_h_9 hR, rf_d_9 hR, rf_12_0 hR, rf_3_1 hR, kn_0, kn_1, kn_2, kn_3, kn_4, kn_5, kn_6, kn_7, kn_8, kn_9, kn_10, kn_11, kn_12, kn_13, kn_14, kn_15, kn_16, kn_17, kn_18, kn_19, kn_20, kn_21, kn_22, kn_23, kn_24, kn_25, kn_26, kn_27, kn_28, kn_29, kn_30, kn_31, kn_32, kn_33, kn_34, kn_35, kn_36, kn_37, kn_38, kn_39, kn_40, kn_41, kn_42, kn_43, kn_44, kn_45, kn_46, kn_47, kn_48, kn_49, kn_50, kn_51, kn_52, kn_53, kn_54, kn_55, ln_2, ln_5, ln_6, ln_7, ln_8, ln_9, ln_10, ln_11, ln_14, ln_15, ln_16, ln_17, ln_18, ln_19, ln_20, ln_22, ln_23, ln_26, ln_28, ln_29, ln_31, ln_32, ln_34, ln_35, ln_37, ln_38, ln_40, ln_41, ln_43, ln_44, ln_46, ln_47, ln_49, ln_50, ln_52, kn_h hR, lt_h hR, kn_h1 hR, ln_h1 hR, lt_h1 hR, kn_h2 hR, ln_h2 hR, lt_h2 hR, kn_h3 hR, ln_h3 hR, lt_h3 hR, kn_h4 hR, ln_h4 hR, lt_h4 hR, kn_h5 hR, ln_h5 hR, lt_h5 hR, kn_h6 hR, ln_h6 hR, lt_h6 hR, kn_h7 hR, ln_h7 hR, lt_h7 hR, kn_d hR, lt_d hR, kn_d1 hR, ln_d1 hR, lt_d1 hR, kn_d2 hR, ln_d2 hR, lt_d2 hR, kn_d3 hR, ln_d3 hR, lt_d3 hR, kn_d4 hR, ln_d4 hR, lt_d4 hR, kn_d5 hR, ln_d5 hR, lt_d5 hR, kn_d6 hR, ln_d6 hR, lt_d6 hR, kn_d7 hR, ln_d7 hR, lt_d7 hR, va_rf_some, push_s, push_n, nb0, nb1, nbb, Nat.reduceLT, c_seen hR hC, vu, ud, vu_vu, Nat.reduceEqDiff, if_true, if_false, h4, c_needsTwo (show a < 100 by omega), c2, b2i_0, f0, z0, show ((1 : Int32) = 2) = False from eq_false (by decide), show ((1 : Int32) = 0) = False from eq_false (by decide)]
    cases q1 : anyb (fun t => cph I 53 t && mseen I pl nt y t) nt with
    | false => rfl
    | true => rfl
/-- what an answer leaves -/
theorem c_narrowDoubt (hR : tRef h d R) (hC : RR I h nr nt y pl) {k : Nat} (hk : k < 2) (h0 : I 55 0 = nI (k + 1)) {s : Int32} (h1 : I 55 (3 + k) = s) (hs : ∀ t, nt ≤ t → t < 32 → bt s t = false) : tEv E 89 0 [.ref 0, tm_dum] [] (mS I J R) Q = if anyb (fun t => nmq I 53 (I 59 t) (I 60 t) && bt s t) nt = true then Q (some 1) (mS (va_up I 55 (upd (I 55) (3 + k) (so (fun t => nmq I 53 (I 59 t) (I 60 t) && bt s t) nt))) J R) else Q (some 0) (mS I J R) := by
  have h16 := RR_16 hC
  have e : s &&& so (nmT I 53 nt) 16 = so (fun t => nmq I 53 (I 59 t) (I 60 t) && bt s t) nt := by
    apply b_ext
    intro t ht
    rw [b_and, so_bt _ (by decide) t ht, so_bt _ (by omega) t ht]
    unfold nmT
    by_cases c2 : t < nt
    · rw [if_pos c2, if_pos c2, decide_eq_true c2, decide_eq_true (show t < 16 by omega), Bool.true_and, Bool.true_and, Bool.and_comm]
    · rw [hs t (by omega) ht, decide_eq_false c2, Bool.false_and, Bool.false_and]
  have z0 : (so (fun t => nmq I 53 (I 59 t) (I 60 t) && bt s t) nt = 0) = (anyb (fun t => nmq I 53 (I 59 t) (I 60 t) && bt s t) nt = false) := so_any (by omega)
  have hd : (if I 55 0 = 1 then I 55 3 else I 55 4) = s := by
    rw [h0, ← h1]
    rcases (by omega : k = 0 ∨ k = 1) with rfl | rfl <;> rfl
  simp only [e_89_0, e_89_1, e_89_4, e_89_7, e_89_8, e_89_11, e_89_12, e_89_15, e_89_18, e_89_21, e_89_22, e_89_23, e_89_24, e_89_27, e_89_28, e_89_29, e_89_30, e_89_33, e_89_36, e_89_37, e_89_40, e_89_41, e_89_44, e_89_45, e_89_48, e_89_51, e_89_52, e_89_55, e_89_56, e_89_59, e_89_60, rf_0_0 hR, rf_0_1 hR, rf_0_2 hR, rf_0_3 hR, rf_0_4 hR, rf_0_5 hR, rf_0_6 hR, rf_1_0 hR, rf_3_0 hR, rf_3_2 hR, rf_4_3 hR, rf_4_4 hR, rf_4_5 hR, rf_4_6 hR, rf_4_7 hR, rf_4_8 hR, rf_4_9 hR, rf_12_1 hR, rf_13_3 hR, rf_13_4 hR, rf_13_5 hR, rf_13_6 hR, rf_13_7 hR, rf_13_8 hR, rf_13_9 hR, rf_21_0 hR, rf_21_1 hR, rf_24_0 hR, rf_25_0 hR, rf_26_0 hR, rf_26_1 hR, rf_26_2 hR, rf_26_3 hR, rf_26_4 hR, rf_26_5 hR, rf_26_6 hR, rf_26_7 hR, rf_27_0 hR, rf_27_1 hR, rf_30_0 hR, rf_30_1 hR, rf_33_0 hR, rf_33_1 hR, rf_36_0 hR, rf_36_1 hR, rf_39_0 hR, rf_39_1 hR, rf_42_0 hR, rf_42_1 hR, rf_45_0 hR, rf_45_1 hR, rf_48_0 hR, rf_48_1 hR, rf_51_0 hR, rf_51_1 hR, rf_51_6 hR, rf_51_7 hR, rf_h_3 hR, rf_d_3 hR, rf_h_4 hR, rf_d_4 hR, rf_h_5 hR, rf_d_5 hR, rf_h_6 hR, rf_d_6 hR, rf_h_7 hR, rf_d_7 hR, rf_h_8 hR, rf_d_8 hR, rf_h_9 hR, rf_d_9 hR, rf_12_0 hR, rf_3_1 hR, kn_0, kn_1, kn_2, kn_3, kn_4, kn_5, kn_6, kn_7, kn_8, kn_9, kn_10, kn_11, kn_12, kn_13, kn_14, kn_15, kn_16, kn_17, kn_18, kn_19, kn_20, kn_21, kn_22, kn_23, kn_24, kn_25, kn_26, kn_27, kn_28, kn_29, kn_30, kn_31, kn_32, kn_33, kn_34, kn_35, kn_36, kn_37, kn_38, kn_39, kn_40, kn_41, kn_42, kn_43, kn_44, kn_45, kn_46, kn_47, kn_48, kn_49, kn_50, kn_51, kn_52, kn_53, kn_54, kn_55, ln_2, ln_5, ln_6, ln_7, ln_8, ln_9, ln_10, ln_11, ln_14, ln_15, ln_16, ln_17, ln_18, ln_19, ln_20, ln_22, ln_23, ln_26, ln_28, ln_29, ln_31, ln_32, ln_34, ln_35, ln_37, ln_38, ln_40, ln_41, ln_43, ln_44, ln_46, ln_47, ln_49, ln_50, ln_52, kn_h hR, lt_h hR, kn_h1 hR, ln_h1 hR, lt_h1 hR, kn_h2 hR, ln_h2 hR, lt_h2 hR, kn_h3 hR, ln_h3 hR, lt_h3 hR, kn_h4 hR, ln_h4 hR, lt_h4 hR, kn_h5 hR, ln_h5 hR, lt_h5 hR, kn_h6 hR, ln_h6 hR, lt_h6 hR, kn_h7 hR, ln_h7 hR, lt_h7 hR, kn_d hR, lt_d hR, kn_d1 hR, ln_d1 hR, lt_d1 hR, kn_d2 hR, ln_d2 hR, lt_d2 hR, kn_d3 hR, ln_d3 hR, lt_d3 hR, kn_d4 hR, ln_d4 hR, lt_d4 hR, kn_d5 hR, ln_d5 hR, lt_d5 hR, kn_d6 hR, ln_d6 hR, lt_d6 hR, kn_d7 hR, ln_d7 hR, lt_d7 hR, va_rf_some, push_s, push_n, nb0, nb1, nbb, Nat.reduceLT, c_dfit hR, hd, c_named hR hC (c := 53) (Or.inl rfl), e, z0]
  rcases (by omega : k = 0 ∨ k = 1) with rfl | rfl
  · simp only [h0, show (nI (0 + 1) = 1) = True from eq_true rfl, if_true]
    cases anyb (fun t => nmq I 53 (I 59 t) (I 60 t) && bt s t) nt <;> rfl
  · simp only [h0, show (nI (1 + 1) = 1) = False from eq_false (by decide), if_false]
    cases anyb (fun t => nmq I 53 (I 59 t) (I 60 t) && bt s t) nt <;> rfl
end F1
