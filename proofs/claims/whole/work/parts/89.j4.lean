/-! ===== the class's reader: traits; the thing in both ===== -/
def tvB (z : Nat) (b c e k : Bool) : Int32 := (if z = 1 then 1 else if z = 2 then 2 else 0) ||| (if b = true then 4 else 0) ||| (if c = true then 8 else 0) ||| (if e = true then 16 else 0) ||| (if k = true then 32 else 0)
theorem tvB_bits : ∀ z, z < 3 → ∀ b c e k : Bool, (!decide (tvB z b c e k &&& 1 = 0)) = decide (z = 1) ∧ (!decide (tvB z b c e k &&& 2 = 0)) = decide (z = 2) ∧ (!decide (tvB z b c e k &&& 4 = 0)) = b ∧ (!decide (tvB z b c e k &&& 8 = 0)) = c ∧ (!decide (tvB z b c e k &&& 16 = 0)) = e ∧ (!decide (tvB z b c e k &&& 32 = 0)) = k := by decide
section J4
variable {E : tm_Env} {Q : Option Int32 → tm_St → Prop} {M I B : Nat → Nat → Int32} {J : Nat → Nat → Int64} {R : Nat → Nat → Option Nat} {h d : Nat} {n p q nr nt f : Nat} {tc pp : Nat → Nat} {b : Bool}
theorem trV_is : trV n tc p = tvB (if cc n tc p = 99 then 1 else if cc n tc p = 115 then 2 else 0) (decide (cc n tc (trQ1 n tc p) = 111)) (decide (cc n tc (trQ2 n tc p) = 102)) (decide (cc n tc (trQ3 n tc p) = 108)) (trK n tc p) := by
  unfold trV trW tvB t1V
  have e1 : (if cc n tc p = 99 then (1 : Int32) else if cc n tc p = 115 then 2 else 0) = (if (if cc n tc p = 99 then 1 else if cc n tc p = 115 then 2 else 0) = 1 then 1 else if (if cc n tc p = 99 then 1 else if cc n tc p = 115 then 2 else 0) = 2 then 2 else 0) := by
    by_cases c1 : cc n tc p = 99
    · simp [c1]
    · by_cases c2 : cc n tc p = 115 <;> simp [c1, c2]
  rw [e1]
  simp only [decide_eq_true_eq]
  cases trK n tc p with
  | true => rfl
  | false => rw [if_neg (show ¬ (false = true) by decide), if_neg (show ¬ (false = true) by decide), Int32.or_zero]
theorem trV_bits : (!decide (trV n tc p &&& 1 = 0)) = decide (cc n tc p = 99) ∧ (!decide (trV n tc p &&& 2 = 0)) = decide (cc n tc p = 115) ∧ (!decide (trV n tc p &&& 4 = 0)) = decide (cc n tc (trQ1 n tc p) = 111) ∧ (!decide (trV n tc p &&& 8 = 0)) = decide (cc n tc (trQ2 n tc p) = 102) ∧ (!decide (trV n tc p &&& 16 = 0)) = decide (cc n tc (trQ3 n tc p) = 108) ∧ (!decide (trV n tc p &&& 32 = 0)) = trK n tc p := by
  rw [trV_is]
  obtain ⟨g1, g2, g3, g4, g5, g6⟩ := tvB_bits (if cc n tc p = 99 then 1 else if cc n tc p = 115 then 2 else 0) (by by_cases c1 : cc n tc p = 99 <;> by_cases c2 : cc n tc p = 115 <;> simp [c1, c2]) (decide (cc n tc (trQ1 n tc p) = 111)) (decide (cc n tc (trQ2 n tc p) = 102)) (decide (cc n tc (trQ3 n tc p) = 108)) (trK n tc p)
  refine ⟨g1.trans ?_, g2.trans ?_, g3, g4, g5, g6⟩
  · rw [decide_eq_decide]
    by_cases c1 : cc n tc p = 99
    · simp [c1]
    · by_cases c2 : cc n tc p = 115 <;> simp [c1, c2]
  · rw [decide_eq_decide]
    by_cases c1 : cc n tc p = 99
    · simp [c1]
    · by_cases c2 : cc n tc p = 115 <;> simp [c1, c2]
theorem trX_fr : frD B (trX B n tc d nt p) d := frD_bsd (frD_bsd (frD_bsd (frD_bsd (frD_bsd (frD_refl B d)))))
theorem trX_1 {k : Nat} (hk : k < 10 ∨ 14 < k) : trX B n tc d nt p d k = B d k := by
  unfold trX
  rw [bsd_o (by omega), bsd_o (by omega), bsd_o (by omega), bsd_o (by omega), bsd_o (by omega)]
/-- as far as the key -/
theorem c_traits_pre (hR : tRef h d R) (hT : TXc B n tc) (hk : B d 1 = nI nt) (hp : p < 800) : tEv E 31 0 [.ref 3, tm_dum, tm_dum, tm_dum, tm_dum] [] (mS (hx B p) J R) Q = tEv E 31 127 [.ref 3, .int (nI nt), .int (1 <<< (nI nt &&& 31)), .int (b2i (decide (cc n tc (trQ1 n tc p) = 111))), tm_dum] [] (mS (hx (trX B n tc d nt p) (trQ4 n tc p)) J R) Q := by
  have dd := dd_of hR
  have hxd0 : ∀ q I, hx I q d = I d := fun q I => hx_x (by omega)
  obtain ⟨l1, l2, l3, l4, l5⟩ := trQ_le n tc p
  have hT1 : ∀ X, frD B X d → TXc X n tc := fun X hX => TXc_fr dd hX hT
  have f1 : frD B (bsd (bsd B d 10 nt (decide (cc n tc p = 99))) d 11 nt (decide (cc n tc p = 115))) d := frD_bsd (frD_bsd (frD_refl B d))
  have f2 := frD_bsd (f := 12) (nt := nt) (b := decide (cc n tc (trQ1 n tc p) = 111)) f1
  have f3 := frD_bsd (f := 13) (nt := nt) (b := decide (cc n tc (trQ2 n tc p) = 102)) f2
  simp only [e_31_0, e_31_1, e_31_4, e_31_7, e_31_8, e_31_9, e_31_10, e_31_11, rf_0_0 hR, rf_0_1 hR, rf_0_2 hR, rf_0_3 hR, rf_0_4 hR, rf_0_5 hR, rf_0_6 hR, rf_1_0 hR, rf_3_0 hR, rf_3_2 hR, rf_4_3 hR, rf_4_4 hR, rf_4_5 hR, rf_4_6 hR, rf_4_7 hR, rf_4_8 hR, rf_4_9 hR, rf_12_1 hR, rf_13_3 hR, rf_13_4 hR, rf_13_5 hR, rf_13_6 hR, rf_13_7 hR, rf_13_8 hR, rf_13_9 hR, rf_21_0 hR, rf_21_1 hR, rf_24_0 hR, rf_25_0 hR, rf_26_0 hR, rf_26_1 hR, rf_26_2 hR, rf_26_3 hR, rf_26_4 hR, rf_26_5 hR, rf_26_6 hR, rf_26_7 hR, rf_27_0 hR, rf_27_1 hR, rf_30_0 hR, rf_30_1 hR, rf_33_0 hR, rf_33_1 hR, rf_36_0 hR, rf_36_1 hR, rf_39_0 hR, rf_39_1 hR, rf_42_0 hR, rf_42_1 hR, rf_45_0 hR, rf_45_1 hR, rf_48_0 hR, rf_48_1 hR, rf_51_0 hR, rf_51_1 hR, rf_51_6 hR, rf_51_7 hR, rf_h_3 hR, rf_d_3 hR, rf_h_4 hR, rf_d_4 hR, rf_h_5 hR, rf_d_5 hR, rf_h_6 hR, rf_d_6 hR, rf_h_7 hR, rf_d_7 hR, rf_h_8 hR, rf_d_8 hR, rf_h_9 hR, rf_d_9 hR, rf_12_0 hR, rf_3_1 hR, kn_0, kn_1, kn_2, kn_3, kn_4, kn_5, kn_6, kn_7, kn_8, kn_9, kn_10, kn_11, kn_12, kn_13, kn_14, kn_15, kn_16, kn_17, kn_18, kn_19, kn_20, kn_21, kn_22, kn_23, kn_24, kn_25, kn_26, kn_27, kn_28, kn_29, kn_30, kn_31, kn_32, kn_33, kn_34, kn_35, kn_36, kn_37, kn_38, kn_39, kn_40, kn_41, kn_42, kn_43, kn_44, kn_45, kn_46, kn_47, kn_48, kn_49, kn_50, kn_51, kn_52, kn_53, kn_54, kn_55, ln_2, ln_5, ln_6, ln_7, ln_8, ln_9, ln_10, ln_11, ln_14, ln_15, ln_16, ln_17, ln_18, ln_19, ln_20, ln_22, ln_23, ln_26, ln_28, ln_29, ln_31, ln_32, ln_34, ln_35, ln_37, ln_38, ln_40, ln_41, ln_43, ln_44, ln_46, ln_47, ln_49, ln_50, ln_52, kn_h hR, lt_h hR, kn_h1 hR, ln_h1 hR, lt_h1 hR, kn_h2 hR, ln_h2 hR, lt_h2 hR, kn_h3 hR, ln_h3 hR, lt_h3 hR, kn_h4 hR, ln_h4 hR, lt_h4 hR, kn_h5 hR, ln_h5 hR, lt_h5 hR, kn_h6 hR, ln_h6 hR, lt_h6 hR, kn_h7 hR, ln_h7 hR, lt_h7 hR, kn_d hR, lt_d hR, kn_d1 hR, ln_d1 hR, lt_d1 hR, kn_d2 hR, ln_d2 hR, lt_d2 hR, kn_d3 hR, ln_d3 hR, lt_d3 hR, kn_d4 hR, ln_d4 hR, lt_d4 hR, kn_d5 hR, ln_d5 hR, lt_d5 hR, kn_d6 hR, ln_d6 hR, lt_d6 hR, kn_d7 hR, ln_d7 hR, lt_d7 hR, va_rf_some, push_s, push_n, nb0, nb1, nbb, Nat.reduceLT, hxd0, hk]
  rw [c_tA hR hT (show p < 900 by omega)]
  show tEv E 31 59 _ _ (mS (hx _ (trQ1 n tc p)) J R) Q = _
  rw [c_tB hR (hT1 _ f1) (show trQ1 n tc p < 900 by omega)]
  show tEv E 31 83 _ _ (mS (hx _ (trQ2 n tc p)) J R) Q = _
  rw [c_tC hR (hT1 _ f2) (show trQ2 n tc p < 900 by omega)]
  show tEv E 31 105 _ _ (mS (hx _ (trQ3 n tc p)) J R) Q = _
  rw [c_tD hR (hT1 _ f3) (show trQ3 n tc p < 900 by omega)]
  rfl
theorem key_n4 (h : nt < 1000) (hok : trOk n tc nt p = true) : (!decide (trKey n tc p = -4)) = trK n tc p ∧ ¬ trKey n tc p = -1 := by
  unfold trKey
  cases c : trK n tc p with
  | false =>
    rw [if_neg (by decide)]
    exact ⟨by decide, by decide⟩
  | true =>
    unfold trOk at hok
    rw [c] at hok
    have hv : thV n tc (trQ4 n tc p + 1) < nt := by
      unfold thOk at hok
      simp only [Bool.not_true, Bool.false_or, Bool.and_eq_true, decide_eq_true_eq] at hok
      exact hok.1.2
    rw [if_pos rfl, decide_eq_false (nI_n4 (by omega))]
    refine ⟨rfl, fun e => ?_⟩
    have := nI_pos (n := thV n tc (trQ4 n tc p + 1)) (by omega)
    rw [e] at this
    exact this (by decide)
theorem c_traits_1 (hR : tRef h d R) (hT : TXc B n tc) (hk : B d 1 = nI nt) (hn : nt < 16) (hp : p < 800) (hok : trOk n tc nt p = true) : tEv E 31 0 [.ref 3, tm_dum, tm_dum, tm_dum, tm_dum] [] (mS (hx B p) J R) Q = Q (some 1) (mS (hx (trE (bsd (trX B n tc d nt p) d 15 nt (trK n tc p)) d nt (trKey n tc p)) (trP n tc p)) J R) := by
  have dd := dd_of hR
  obtain ⟨l1, l2, l3, l4, l5⟩ := trQ_le n tc p
  have hT4 : TXc (trX B n tc d nt p) n tc := TXc_fr dd trX_fr hT
  have hk4 : trX B n tc d nt p d 1 = nI nt := (trX_1 (Or.inl (by decide))).trans hk
  obtain ⟨y1, y2⟩ := key_n4 (show nt < 1000 by omega) hok
  rw [c_traits_pre hR hT hk hp]
  have sk := fun {Q} => c_skip3 (E := E) (Q := Q) (J := J) hR hT4 (show trQ4 n tc p < 1000 by omega) (x := 107) (by decide)
  rw [show nI 107 = 107 from rfl] at sk
  have hE := fun {Q} {l3 l4} {q : Nat} (hq : q < 900) => c_tE (E := E) (Q := Q) (J := J) (B := trX B n tc d nt p) (l3 := l3) (l4 := l4) (q := q) hR hk4 hn (key := trKey n tc p) hq y2
  simp only [y1] at hE
  cases c : trK n tc p with
  | false =>
    have c2 : ¬ cc n tc (trQ4 n tc p) = 107 := of_decide_eq_false c
    have eo : op n tc 107 (trQ4 n tc p) = trQ4 n tc p := if_neg c2
    have ey : trKey n tc p = -4 := by unfold trKey; rw [c, if_neg (by decide)]
    have ep : trP n tc p = trQ4 n tc p := by unfold trP; rw [c, if_neg (by decide)]
    rw [eo, decide_eq_false c2] at sk
    rw [ey, c] at hE
    rw [ey, ep]
    by_cases c3 : cc n tc (trQ1 n tc p) = 111
    · simp only [e_31_127, e_31_128, e_31_131, e_31_132, e_31_134, e_31_137, e_31_140, e_31_141, e_31_144, e_31_147, rf_0_0 hR, rf_0_1 hR, rf_0_2 hR, rf_0_3 hR, rf_0_4 hR, rf_0_5 hR, rf_0_6 hR, rf_1_0 hR, rf_3_0 hR, rf_3_2 hR, rf_4_3 hR, rf_4_4 hR, rf_4_5 hR, rf_4_6 hR, rf_4_7 hR, rf_4_8 hR, rf_4_9 hR, rf_12_1 hR, rf_13_3 hR, rf_13_4 hR, rf_13_5 hR, rf_13_6 hR, rf_13_7 hR, rf_13_8 hR, rf_13_9 hR, rf_21_0 hR, rf_21_1 hR, rf_24_0 hR, rf_25_0 hR, rf_26_0 hR, rf_26_1 hR, rf_26_2 hR, rf_26_3 hR, rf_26_4 hR, rf_26_5 hR, rf_26_6 hR, rf_26_7 hR, rf_27_0 hR, rf_27_1 hR, rf_30_0 hR, rf_30_1 hR, rf_33_0 hR, rf_33_1 hR, rf_36_0 hR, rf_36_1 hR, rf_39_0 hR, rf_39_1 hR, rf_42_0 hR, rf_42_1 hR, rf_45_0 hR, rf_45_1 hR, rf_48_0 hR, rf_48_1 hR, rf_51_0 hR, rf_51_1 hR, rf_51_6 hR, rf_51_7 hR, rf_h_3 hR, rf_d_3 hR, rf_h_4 hR, rf_d_4 hR, rf_h_5 hR, rf_d_5 hR, rf_h_6 hR, rf_d_6 hR, rf_h_7 hR, rf_d_7 hR, rf_h_8 hR, rf_d_8 hR, rf_h_9 hR, rf_d_9 hR, rf_12_0 hR, rf_3_1 hR, kn_0, kn_1, kn_2, kn_3, kn_4, kn_5, kn_6, kn_7, kn_8, kn_9, kn_10, kn_11, kn_12, kn_13, kn_14, kn_15, kn_16, kn_17, kn_18, kn_19, kn_20, kn_21, kn_22, kn_23, kn_24, kn_25, kn_26, kn_27, kn_28, kn_29, kn_30, kn_31, kn_32, kn_33, kn_34, kn_35, kn_36, kn_37, kn_38, kn_39, kn_40, kn_41, kn_42, kn_43, kn_44, kn_45, kn_46, kn_47, kn_48, kn_49, kn_50, kn_51, kn_52, kn_53, kn_54, kn_55, ln_2, ln_5, ln_6, ln_7, ln_8, ln_9, ln_10, ln_11, ln_14, ln_15, ln_16, ln_17, ln_18, ln_19, ln_20, ln_22, ln_23, ln_26, ln_28, ln_29, ln_31, ln_32, ln_34, ln_35, ln_37, ln_38, ln_40, ln_41, ln_43, ln_44, ln_46, ln_47, ln_49, ln_50, ln_52, kn_h hR, lt_h hR, kn_h1 hR, ln_h1 hR, lt_h1 hR, kn_h2 hR, ln_h2 hR, lt_h2 hR, kn_h3 hR, ln_h3 hR, lt_h3 hR, kn_h4 hR, ln_h4 hR, lt_h4 hR, kn_h5 hR, ln_h5 hR, lt_h5 hR, kn_h6 hR, ln_h6 hR, lt_h6 hR, kn_h7 hR, ln_h7 hR, lt_h7 hR, kn_d hR, lt_d hR, kn_d1 hR, ln_d1 hR, lt_d1 hR, kn_d2 hR, ln_d2 hR, lt_d2 hR, kn_d3 hR, ln_d3 hR, lt_d3 hR, kn_d4 hR, ln_d4 hR, lt_d4 hR, kn_d5 hR, ln_d5 hR, lt_d5 hR, kn_d6 hR, ln_d6 hR, lt_d6 hR, kn_d7 hR, ln_d7 hR, lt_d7 hR, va_rf_some, push_s, push_n, nb0, nb1, nbb, Nat.reduceLT, decide_eq_true c3, show (b2i true = 0) = False from eq_false (by decide), if_false, sk, show (b2i false = 0) = True from eq_true rfl, if_true]
      exact hE (by omega)
    · simp only [e_31_127, e_31_128, e_31_131, e_31_132, e_31_134, e_31_137, e_31_140, e_31_141, e_31_144, e_31_147, rf_0_0 hR, rf_0_1 hR, rf_0_2 hR, rf_0_3 hR, rf_0_4 hR, rf_0_5 hR, rf_0_6 hR, rf_1_0 hR, rf_3_0 hR, rf_3_2 hR, rf_4_3 hR, rf_4_4 hR, rf_4_5 hR, rf_4_6 hR, rf_4_7 hR, rf_4_8 hR, rf_4_9 hR, rf_12_1 hR, rf_13_3 hR, rf_13_4 hR, rf_13_5 hR, rf_13_6 hR, rf_13_7 hR, rf_13_8 hR, rf_13_9 hR, rf_21_0 hR, rf_21_1 hR, rf_24_0 hR, rf_25_0 hR, rf_26_0 hR, rf_26_1 hR, rf_26_2 hR, rf_26_3 hR, rf_26_4 hR, rf_26_5 hR, rf_26_6 hR, rf_26_7 hR, rf_27_0 hR, rf_27_1 hR, rf_30_0 hR, rf_30_1 hR, rf_33_0 hR, rf_33_1 hR, rf_36_0 hR, rf_36_1 hR, rf_39_0 hR, rf_39_1 hR, rf_42_0 hR, rf_42_1 hR, rf_45_0 hR, rf_45_1 hR, rf_48_0 hR, rf_48_1 hR, rf_51_0 hR, rf_51_1 hR, rf_51_6 hR, rf_51_7 hR, rf_h_3 hR, rf_d_3 hR, rf_h_4 hR, rf_d_4 hR, rf_h_5 hR, rf_d_5 hR, rf_h_6 hR, rf_d_6 hR, rf_h_7 hR, rf_d_7 hR, rf_h_8 hR, rf_d_8 hR, rf_h_9 hR, rf_d_9 hR, rf_12_0 hR, rf_3_1 hR, kn_0, kn_1, kn_2, kn_3, kn_4, kn_5, kn_6, kn_7, kn_8, kn_9, kn_10, kn_11, kn_12, kn_13, kn_14, kn_15, kn_16, kn_17, kn_18, kn_19, kn_20, kn_21, kn_22, kn_23, kn_24, kn_25, kn_26, kn_27, kn_28, kn_29, kn_30, kn_31, kn_32, kn_33, kn_34, kn_35, kn_36, kn_37, kn_38, kn_39, kn_40, kn_41, kn_42, kn_43, kn_44, kn_45, kn_46, kn_47, kn_48, kn_49, kn_50, kn_51, kn_52, kn_53, kn_54, kn_55, ln_2, ln_5, ln_6, ln_7, ln_8, ln_9, ln_10, ln_11, ln_14, ln_15, ln_16, ln_17, ln_18, ln_19, ln_20, ln_22, ln_23, ln_26, ln_28, ln_29, ln_31, ln_32, ln_34, ln_35, ln_37, ln_38, ln_40, ln_41, ln_43, ln_44, ln_46, ln_47, ln_49, ln_50, ln_52, kn_h hR, lt_h hR, kn_h1 hR, ln_h1 hR, lt_h1 hR, kn_h2 hR, ln_h2 hR, lt_h2 hR, kn_h3 hR, ln_h3 hR, lt_h3 hR, kn_h4 hR, ln_h4 hR, lt_h4 hR, kn_h5 hR, ln_h5 hR, lt_h5 hR, kn_h6 hR, ln_h6 hR, lt_h6 hR, kn_h7 hR, ln_h7 hR, lt_h7 hR, kn_d hR, lt_d hR, kn_d1 hR, ln_d1 hR, lt_d1 hR, kn_d2 hR, ln_d2 hR, lt_d2 hR, kn_d3 hR, ln_d3 hR, lt_d3 hR, kn_d4 hR, ln_d4 hR, lt_d4 hR, kn_d5 hR, ln_d5 hR, lt_d5 hR, kn_d6 hR, ln_d6 hR, lt_d6 hR, kn_d7 hR, ln_d7 hR, lt_d7 hR, va_rf_some, push_s, push_n, nb0, nb1, nbb, Nat.reduceLT, decide_eq_false c3, show (b2i false = 0) = True from eq_true rfl, if_true]
      exact hE (by omega)
  | true =>
    have c2 : cc n tc (trQ4 n tc p) = 107 := of_decide_eq_true c
    have eo : op n tc 107 (trQ4 n tc p) = trQ4 n tc p + 1 := if_pos c2
    have hok2 : thOk n tc nt (trQ4 n tc p + 1) = true ∧ cc n tc (trQ1 n tc p) = 111 := by
      unfold trOk at hok
      rw [c] at hok
      simpa using hok
    have ey : trKey n tc p = nI (thV n tc (trQ4 n tc p + 1)) := by unfold trKey; rw [c, if_pos rfl]
    have ep : trP n tc p = trQ4 n tc p + 3 := by unfold trP; rw [c, if_pos rfl]
    have tn := fun {Q} => c_thingNo (E := E) (Q := Q) (J := J) hR hT4 (show trQ4 n tc p + 1 < 900 by omega) (by omega) hk4 (by omega)
    rw [hok2.1] at tn
    rw [if_pos rfl, show trQ4 n tc p + 1 + 2 = trQ4 n tc p + 3 by omega] at tn
    rw [eo, decide_eq_true c2] at sk
    rw [ey, c] at hE
    rw [ey, ep]
    simp only [e_31_127, e_31_128, e_31_131, e_31_132, e_31_134, e_31_137, e_31_140, e_31_141, e_31_144, rf_0_0 hR, rf_0_1 hR, rf_0_2 hR, rf_0_3 hR, rf_0_4 hR, rf_0_5 hR, rf_0_6 hR, rf_1_0 hR, rf_3_0 hR, rf_3_2 hR, rf_4_3 hR, rf_4_4 hR, rf_4_5 hR, rf_4_6 hR, rf_4_7 hR, rf_4_8 hR, rf_4_9 hR, rf_12_1 hR, rf_13_3 hR, rf_13_4 hR, rf_13_5 hR, rf_13_6 hR, rf_13_7 hR, rf_13_8 hR, rf_13_9 hR, rf_21_0 hR, rf_21_1 hR, rf_24_0 hR, rf_25_0 hR, rf_26_0 hR, rf_26_1 hR, rf_26_2 hR, rf_26_3 hR, rf_26_4 hR, rf_26_5 hR, rf_26_6 hR, rf_26_7 hR, rf_27_0 hR, rf_27_1 hR, rf_30_0 hR, rf_30_1 hR, rf_33_0 hR, rf_33_1 hR, rf_36_0 hR, rf_36_1 hR, rf_39_0 hR, rf_39_1 hR, rf_42_0 hR, rf_42_1 hR, rf_45_0 hR, rf_45_1 hR, rf_48_0 hR, rf_48_1 hR, rf_51_0 hR, rf_51_1 hR, rf_51_6 hR, rf_51_7 hR, rf_h_3 hR, rf_d_3 hR, rf_h_4 hR, rf_d_4 hR, rf_h_5 hR, rf_d_5 hR, rf_h_6 hR, rf_d_6 hR, rf_h_7 hR, rf_d_7 hR, rf_h_8 hR, rf_d_8 hR, rf_h_9 hR, rf_d_9 hR, rf_12_0 hR, rf_3_1 hR, kn_0, kn_1, kn_2, kn_3, kn_4, kn_5, kn_6, kn_7, kn_8, kn_9, kn_10, kn_11, kn_12, kn_13, kn_14, kn_15, kn_16, kn_17, kn_18, kn_19, kn_20, kn_21, kn_22, kn_23, kn_24, kn_25, kn_26, kn_27, kn_28, kn_29, kn_30, kn_31, kn_32, kn_33, kn_34, kn_35, kn_36, kn_37, kn_38, kn_39, kn_40, kn_41, kn_42, kn_43, kn_44, kn_45, kn_46, kn_47, kn_48, kn_49, kn_50, kn_51, kn_52, kn_53, kn_54, kn_55, ln_2, ln_5, ln_6, ln_7, ln_8, ln_9, ln_10, ln_11, ln_14, ln_15, ln_16, ln_17, ln_18, ln_19, ln_20, ln_22, ln_23, ln_26, ln_28, ln_29, ln_31, ln_32, ln_34, ln_35, ln_37, ln_38, ln_40, ln_41, ln_43, ln_44, ln_46, ln_47, ln_49, ln_50, ln_52, kn_h hR, lt_h hR, kn_h1 hR, ln_h1 hR, lt_h1 hR, kn_h2 hR, ln_h2 hR, lt_h2 hR, kn_h3 hR, ln_h3 hR, lt_h3 hR, kn_h4 hR, ln_h4 hR, lt_h4 hR, kn_h5 hR, ln_h5 hR, lt_h5 hR, kn_h6 hR, ln_h6 hR, lt_h6 hR, kn_h7 hR, ln_h7 hR, lt_h7 hR, kn_d hR, lt_d hR, kn_d1 hR, ln_d1 hR, lt_d1 hR, kn_d2 hR, ln_d2 hR, lt_d2 hR, kn_d3 hR, ln_d3 hR, lt_d3 hR, kn_d4 hR, ln_d4 hR, lt_d4 hR, kn_d5 hR, ln_d5 hR, lt_d5 hR, kn_d6 hR, ln_d6 hR, lt_d6 hR, kn_d7 hR, ln_d7 hR, lt_d7 hR, va_rf_some, push_s, push_n, nb0, nb1, nbb, Nat.reduceLT, decide_eq_true hok2.2, show (b2i true = 0) = False from eq_false (by decide), if_false, sk, tn]
    exact hE (by omega)
theorem c_traits_0 (hR : tRef h d R) (hT : TXc B n tc) (hk : B d 1 = nI nt) (hn : nt < 16) (hp : p < 800) (hok : trOk n tc nt p = false) : ∃ I', frD B I' d ∧ ((∀ Q, tEv E 31 0 [.ref 3, tm_dum, tm_dum, tm_dum, tm_dum] [] (mS (hx B p) J R) Q = Q (some 0) (mS I' J R)) ∨ (I' 3 1 = nI (trQ4 n tc p) ∧ I' = hx I' (trQ4 n tc p) ∧ cc n tc (trQ4 n tc p) = 107 ∧ ∀ Q, tEv E 31 0 [.ref 3, tm_dum, tm_dum, tm_dum, tm_dum] [] (mS (hx B p) J R) Q = Q (some 1) (mS I' J R))) := by
  have dd := dd_of hR
  obtain ⟨l1, l2, l3, l4, l5⟩ := trQ_le n tc p
  have hT4 : TXc (trX B n tc d nt p) n tc := TXc_fr dd trX_fr hT
  have hk4 : trX B n tc d nt p d 1 = nI nt := (trX_1 (Or.inl (by decide))).trans hk
  have cK : trK n tc p = true := by
    unfold trOk at hok
    cases c : trK n tc p with
    | true => rfl
    | false => rw [c] at hok; simp at hok
  have c2 : cc n tc (trQ4 n tc p) = 107 := of_decide_eq_true cK
  have eo : op n tc 107 (trQ4 n tc p) = trQ4 n tc p + 1 := if_pos c2
  have sk := fun {Q} => c_skip3 (E := E) (Q := Q) (J := J) hR hT4 (show trQ4 n tc p < 1000 by omega) (x := 107) (by decide)
  rw [show nI 107 = 107 from rfl, eo, decide_eq_true c2] at sk
  by_cases c3 : cc n tc (trQ1 n tc p) = 111
  · have hno : thOk n tc nt (trQ4 n tc p + 1) = false := by
      unfold trOk at hok
      rw [cK, decide_eq_true c3] at hok
      simpa using hok
    have tn := fun {Q} => c_thingNo (E := E) (Q := Q) (J := J) hR hT4 (show trQ4 n tc p + 1 < 900 by omega) (by omega) hk4 (by omega)
    rw [hno] at tn
    rw [if_neg (by decide)] at tn
    refine ⟨hx (trX B n tc d nt p) (trQ4 n tc p + 1 + 2), frD_hx trX_fr, Or.inl (fun Q => ?_)⟩
    rw [c_traits_pre hR hT hk hp]
    simp only [e_31_127, e_31_128, e_31_131, e_31_132, e_31_134, e_31_137, e_31_140, e_31_141, e_31_144, e_31_147, e_31_149, e_31_151, e_31_153, e_31_154, e_31_157, e_31_158, e_31_160, e_31_163, e_31_164, rf_0_0 hR, rf_0_1 hR, rf_0_2 hR, rf_0_3 hR, rf_0_4 hR, rf_0_5 hR, rf_0_6 hR, rf_1_0 hR, rf_3_0 hR, rf_3_2 hR, rf_4_3 hR, rf_4_4 hR, rf_4_5 hR, rf_4_6 hR, rf_4_7 hR, rf_4_8 hR, rf_4_9 hR, rf_12_1 hR, rf_13_3 hR, rf_13_4 hR, rf_13_5 hR, rf_13_6 hR, rf_13_7 hR, rf_13_8 hR, rf_13_9 hR, rf_21_0 hR, rf_21_1 hR, rf_24_0 hR, rf_25_0 hR, rf_26_0 hR, rf_26_1 hR, rf_26_2 hR, rf_26_3 hR, rf_26_4 hR, rf_26_5 hR, rf_26_6 hR, rf_26_7 hR, rf_27_0 hR, rf_27_1 hR, rf_30_0 hR, rf_30_1 hR, rf_33_0 hR, rf_33_1 hR, rf_36_0 hR, rf_36_1 hR, rf_39_0 hR, rf_39_1 hR, rf_42_0 hR, rf_42_1 hR, rf_45_0 hR, rf_45_1 hR, rf_48_0 hR, rf_48_1 hR, rf_51_0 hR, rf_51_1 hR, rf_51_6 hR, rf_51_7 hR, rf_h_3 hR, rf_d_3 hR, rf_h_4 hR, rf_d_4 hR, rf_h_5 hR, rf_d_5 hR, rf_h_6 hR, rf_d_6 hR, rf_h_7 hR, rf_d_7 hR, rf_h_8 hR, rf_d_8 hR, rf_h_9 hR, rf_d_9 hR, rf_12_0 hR, rf_3_1 hR, kn_0, kn_1, kn_2, kn_3, kn_4, kn_5, kn_6, kn_7, kn_8, kn_9, kn_10, kn_11, kn_12, kn_13, kn_14, kn_15, kn_16, kn_17, kn_18, kn_19, kn_20, kn_21, kn_22, kn_23, kn_24, kn_25, kn_26, kn_27, kn_28, kn_29, kn_30, kn_31, kn_32, kn_33, kn_34, kn_35, kn_36, kn_37, kn_38, kn_39, kn_40, kn_41, kn_42, kn_43, kn_44, kn_45, kn_46, kn_47, kn_48, kn_49, kn_50, kn_51, kn_52, kn_53, kn_54, kn_55, ln_2, ln_5, ln_6, ln_7, ln_8, ln_9, ln_10, ln_11, ln_14, ln_15, ln_16, ln_17, ln_18, ln_19, ln_20, ln_22, ln_23, ln_26, ln_28, ln_29, ln_31, ln_32, ln_34, ln_35, ln_37, ln_38, ln_40, ln_41, ln_43, ln_44, ln_46, ln_47, ln_49, ln_50, ln_52, kn_h hR, lt_h hR, kn_h1 hR, ln_h1 hR, lt_h1 hR, kn_h2 hR, ln_h2 hR, lt_h2 hR, kn_h3 hR, ln_h3 hR, lt_h3 hR, kn_h4 hR, ln_h4 hR, lt_h4 hR, kn_h5 hR, ln_h5 hR, lt_h5 hR, kn_h6 hR, ln_h6 hR, lt_h6 hR, kn_h7 hR, ln_h7 hR, lt_h7 hR, kn_d hR, lt_d hR, kn_d1 hR, ln_d1 hR, lt_d1 hR, kn_d2 hR, ln_d2 hR, lt_d2 hR, kn_d3 hR, ln_d3 hR, lt_d3 hR, kn_d4 hR, ln_d4 hR, lt_d4 hR, kn_d5 hR, ln_d5 hR, lt_d5 hR, kn_d6 hR, ln_d6 hR, lt_d6 hR, kn_d7 hR, ln_d7 hR, lt_d7 hR, va_rf_some, push_s, push_n, nb0, nb1, nbb, Nat.reduceLT, decide_eq_true c3, show (b2i true = 0) = False from eq_false (by decide), if_false, sk, tn, if_true]
  · have hE := fun {Q} {l3 l4} {q : Nat} (hq : q < 900) => c_tE (E := E) (Q := Q) (J := J) (B := trX B n tc d nt p) (l3 := l3) (l4 := l4) (q := q) hR hk4 hn (key := -4) hq (by decide)
    refine ⟨hx (trE (bsd (trX B n tc d nt p) d 15 nt (!decide ((-4 : Int32) = -4))) d nt (-4)) (trQ4 n tc p), frD_hx (frD_up (frD_up (frD_bsd trX_fr) ⟨by omega, by omega⟩) ⟨Nat.le_refl _, by omega⟩), Or.inr ⟨hx_1, ?_, c2, fun Q => ?_⟩⟩
    · unfold hx
      rw [vu_vu, vu_eq, upd_upd]
    · rw [c_traits_pre hR hT hk hp]
      simp only [e_31_127, e_31_128, e_31_131, e_31_132, e_31_134, e_31_137, e_31_140, e_31_141, e_31_144, e_31_147, rf_0_0 hR, rf_0_1 hR, rf_0_2 hR, rf_0_3 hR, rf_0_4 hR, rf_0_5 hR, rf_0_6 hR, rf_1_0 hR, rf_3_0 hR, rf_3_2 hR, rf_4_3 hR, rf_4_4 hR, rf_4_5 hR, rf_4_6 hR, rf_4_7 hR, rf_4_8 hR, rf_4_9 hR, rf_12_1 hR, rf_13_3 hR, rf_13_4 hR, rf_13_5 hR, rf_13_6 hR, rf_13_7 hR, rf_13_8 hR, rf_13_9 hR, rf_21_0 hR, rf_21_1 hR, rf_24_0 hR, rf_25_0 hR, rf_26_0 hR, rf_26_1 hR, rf_26_2 hR, rf_26_3 hR, rf_26_4 hR, rf_26_5 hR, rf_26_6 hR, rf_26_7 hR, rf_27_0 hR, rf_27_1 hR, rf_30_0 hR, rf_30_1 hR, rf_33_0 hR, rf_33_1 hR, rf_36_0 hR, rf_36_1 hR, rf_39_0 hR, rf_39_1 hR, rf_42_0 hR, rf_42_1 hR, rf_45_0 hR, rf_45_1 hR, rf_48_0 hR, rf_48_1 hR, rf_51_0 hR, rf_51_1 hR, rf_51_6 hR, rf_51_7 hR, rf_h_3 hR, rf_d_3 hR, rf_h_4 hR, rf_d_4 hR, rf_h_5 hR, rf_d_5 hR, rf_h_6 hR, rf_d_6 hR, rf_h_7 hR, rf_d_7 hR, rf_h_8 hR, rf_d_8 hR, rf_h_9 hR, rf_d_9 hR, rf_12_0 hR, rf_3_1 hR, kn_0, kn_1, kn_2, kn_3, kn_4, kn_5, kn_6, kn_7, kn_8, kn_9, kn_10, kn_11, kn_12, kn_13, kn_14, kn_15, kn_16, kn_17, kn_18, kn_19, kn_20, kn_21, kn_22, kn_23, kn_24, kn_25, kn_26, kn_27, kn_28, kn_29, kn_30, kn_31, kn_32, kn_33, kn_34, kn_35, kn_36, kn_37, kn_38, kn_39, kn_40, kn_41, kn_42, kn_43, kn_44, kn_45, kn_46, kn_47, kn_48, kn_49, kn_50, kn_51, kn_52, kn_53, kn_54, kn_55, ln_2, ln_5, ln_6, ln_7, ln_8, ln_9, ln_10, ln_11, ln_14, ln_15, ln_16, ln_17, ln_18, ln_19, ln_20, ln_22, ln_23, ln_26, ln_28, ln_29, ln_31, ln_32, ln_34, ln_35, ln_37, ln_38, ln_40, ln_41, ln_43, ln_44, ln_46, ln_47, ln_49, ln_50, ln_52, kn_h hR, lt_h hR, kn_h1 hR, ln_h1 hR, lt_h1 hR, kn_h2 hR, ln_h2 hR, lt_h2 hR, kn_h3 hR, ln_h3 hR, lt_h3 hR, kn_h4 hR, ln_h4 hR, lt_h4 hR, kn_h5 hR, ln_h5 hR, lt_h5 hR, kn_h6 hR, ln_h6 hR, lt_h6 hR, kn_h7 hR, ln_h7 hR, lt_h7 hR, kn_d hR, lt_d hR, kn_d1 hR, ln_d1 hR, lt_d1 hR, kn_d2 hR, ln_d2 hR, lt_d2 hR, kn_d3 hR, ln_d3 hR, lt_d3 hR, kn_d4 hR, ln_d4 hR, lt_d4 hR, kn_d5 hR, ln_d5 hR, lt_d5 hR, kn_d6 hR, ln_d6 hR, lt_d6 hR, kn_d7 hR, ln_d7 hR, lt_d7 hR, va_rf_some, push_s, push_n, nb0, nb1, nbb, Nat.reduceLT, decide_eq_false c3, show (b2i false = 0) = True from eq_true rfl, if_true]
      exact hE (by omega)
/-- the class's draft with a thing more -/
def thD (I : Nat → Nat → Int32) (n : Nat) (tc : Nat → Nat) (d nt p : Nat) : Nat → Nat → Int32 := trE (bsd (trX (thS I d nt (nI (cc n tc p - 97)) (adV n tc (p + 1)) (nI (cv (plV n tc (p + 2)))) (nI (cc n tc (p + 4) - 48))) n tc d nt (p + 5)) d 15 nt (trK n tc (p + 5))) d nt (trKey n tc (p + 5))
theorem DR_thing (hd : d = 4 ∨ d = 13) (hD : DR M I d nr nt pp) (hok : thgOk M n tc nr nt p = true) : DR (rdThg M n tc nt p) (thD I n tc d nt p) d nr (nt + 1) (updN pp nt (plV n tc (p + 2))) := by
  unfold thgOk at hok
  simp only [Bool.and_eq_true, decide_eq_true_eq] at hok
  obtain ⟨⟨⟨⟨⟨k1, k2⟩, k3⟩, k4⟩, k5⟩, k6⟩ := hok
  obtain ⟨⟨a1, a2, a3, a4⟩, ⟨b1, b2⟩, ⟨c1, c2, c3, c4⟩, ⟨e1, e2, e3, e4, e5⟩, f1, ⟨g1, g2, g3, g4, g5, g6⟩, i1, i2⟩ := hD
  obtain ⟨v1, v2, v3, v4, v5, v6⟩ := trV_bits (n := n) (tc := tc) (p := p + 5)
  -- the model's cells
  have m : ∀ c, c ≠ 56 → (c < 70 ∨ 75 < c) → rdThg M n tc nt p c = M c := fun c h1 h2 => by
    unfold rdThg
    rw [vu, if_neg h1, vu, if_neg (by omega), vu, if_neg (by omega), vu, if_neg (by omega), vu, if_neg (by omega), vu, if_neg (by omega), vu, if_neg (by omega)]
  have ms : rdThg M n tc nt p 56 28 = M 56 28 := rfl
  have m70 : ∀ t, rdThg M n tc nt p 70 t = if t = nt then nI (cc n tc p - 97) else M 70 t := fun t => rfl
  have m71 : ∀ t, rdThg M n tc nt p 71 t = if t = nt then adV n tc (p + 1) else M 71 t := fun t => rfl
  have m72 : ∀ t, rdThg M n tc nt p 72 t = if t = nt then nI (plV n tc (p + 2)) else M 72 t := fun t => rfl
  have m73 : ∀ t, rdThg M n tc nt p 73 t = if t = nt then nI (cc n tc (p + 4) - 48) else M 73 t := fun t => rfl
  have m74 : ∀ t, rdThg M n tc nt p 74 t = if t = nt then trV n tc (p + 5) else M 74 t := fun t => rfl
  have m75 : ∀ t, rdThg M n tc nt p 75 t = if t = nt then trKey n tc (p + 5) else M 75 t := fun t => rfl
  -- the class's cells
  have nth : ∀ k, k < 7 → thD I n tc d nt p (d + k) = if k = 0 then thD I n tc d nt p d else thS I d nt (nI (cc n tc p - 97)) (adV n tc (p + 1)) (nI (cv (plV n tc (p + 2)))) (nI (cc n tc (p + 4) - 48)) (d + k) := fun k hk => by
    by_cases e : k = 0
    · rw [if_pos e, e]
      rfl
    · rw [if_neg e]
      unfold thD trE trX
      rw [vu, if_neg (by omega), vu, if_neg (by omega), bsd_x (by omega), bsd_x (by omega), bsd_x (by omega), bsd_x (by omega), bsd_x (by omega), bsd_x (by omega)]
  have d1 : thD I n tc d nt p (d + 1) = I (d + 1) := by
    rw [nth 1 (by decide), if_neg (by decide)]
    unfold thS
    rw [vu, if_neg (by omega), vu, if_neg (by omega), vu, if_neg (by omega), vu, if_neg (by omega)]
  have d2 : thD I n tc d nt p (d + 2) = I (d + 2) := by
    rw [nth 2 (by decide), if_neg (by decide)]
    unfold thS
    rw [vu, if_neg (by omega), vu, if_neg (by omega), vu, if_neg (by omega), vu, if_neg (by omega)]
  have d3 : ∀ t, thD I n tc d nt p (d + 3) t = if t = nt then nI (cc n tc p - 97) else I (d + 3) t := fun t => by
    rw [nth 3 (by decide), if_neg (by decide)]
    unfold thS
    rw [vu, if_neg (by omega), vu, if_neg (by omega), vu, if_neg (by omega), vu_eq, ud]
  have d4 : ∀ t, thD I n tc d nt p (d + 4) t = if t = nt then adV n tc (p + 1) else I (d + 4) t := fun t => by
    rw [nth 4 (by decide), if_neg (by decide)]
    unfold thS
    rw [vu, if_neg (by omega), vu, if_neg (by omega), vu_eq, ud]
  have d5 : ∀ t, thD I n tc d nt p (d + 5) t = if t = nt then nI (cv (plV n tc (p + 2))) else I (d + 5) t := fun t => by
    rw [nth 5 (by decide), if_neg (by decide)]
    unfold thS
    rw [vu, if_neg (by omega), vu_eq, ud]
  have d6 : ∀ t, thD I n tc d nt p (d + 6) t = if t = nt then nI (cc n tc (p + 4) - 48) else I (d + 6) t := fun t => by
    rw [nth 6 (by decide), if_neg (by decide)]
    unfold thS
    rw [vu_eq, ud]
  have d7 : ∀ t, thD I n tc d nt p (d + 7) t = if t = nt then trKey n tc (p + 5) else I (d + 7) t := fun t => by
    unfold thD trE
    rw [vu, if_neg (show ¬ d + 7 = d by omega), vu_eq, ud, bsd_x (by omega)]
    unfold trX
    rw [bsd_x (by omega), bsd_x (by omega), bsd_x (by omega), bsd_x (by omega), bsd_x (by omega)]
    unfold thS
    rw [vu, if_neg (show ¬ d + 7 = d + 6 by omega), vu, if_neg (show ¬ d + 7 = d + 5 by omega), vu, if_neg (show ¬ d + 7 = d + 4 by omega), vu, if_neg (show ¬ d + 7 = d + 3 by omega)]
  have thd : ∀ a b c e, thS I d nt a b c e d = I d := fun a b c e => by
    unfold thS
    rw [vu, if_neg (by omega), vu, if_neg (by omega), vu, if_neg (by omega), vu, if_neg (by omega)]
  have dk : ∀ k, k ≠ 1 → (k < 10 ∨ 15 < k) → thD I n tc d nt p d k = I d k := fun k h1 h2 => by
    unfold thD trE
    rw [vu_eq, ud, if_neg h1, bsd_o (by omega), trX_1 (by omega), thd]
  have bits : ∀ t, t < 32 → bt (thD I n tc d nt p d 10) t = (bt (I d 10) t || (decide (cc n tc (p + 5) = 99) && decide (t = nt))) ∧ bt (thD I n tc d nt p d 11) t = (bt (I d 11) t || (decide (cc n tc (p + 5) = 115) && decide (t = nt))) ∧ bt (thD I n tc d nt p d 12) t = (bt (I d 12) t || (decide (cc n tc (trQ1 n tc (p + 5)) = 111) && decide (t = nt))) ∧ bt (thD I n tc d nt p d 13) t = (bt (I d 13) t || (decide (cc n tc (trQ2 n tc (p + 5)) = 102) && decide (t = nt))) ∧ bt (thD I n tc d nt p d 14) t = (bt (I d 14) t || (decide (cc n tc (trQ3 n tc (p + 5)) = 108) && decide (t = nt))) ∧ bt (thD I n tc d nt p d 15) t = (bt (I d 15) t || (trK n tc (p + 5) && decide (t = nt))) := fun t ht => by
    unfold thD trE
    refine ⟨?_, ?_, ?_, ?_, ?_, ?_⟩
    · rw [vu_eq, ud, if_neg (by decide), bsd_o (by decide)]
      unfold trX
      rw [bsd_o (by decide), bsd_o (by decide), bsd_o (by decide), bsd_o (by decide), bsd_f (by omega) ht, thd]
    · rw [vu_eq, ud, if_neg (by decide), bsd_o (by decide)]
      unfold trX
      rw [bsd_o (by decide), bsd_o (by decide), bsd_o (by decide), bsd_f (by omega) ht, bsd_o (by decide), thd]
    · rw [vu_eq, ud, if_neg (by decide), bsd_o (by decide)]
      unfold trX
      rw [bsd_o (by decide), bsd_o (by decide), bsd_f (by omega) ht, bsd_o (by decide), bsd_o (by decide), thd]
    · rw [vu_eq, ud, if_neg (by decide), bsd_o (by decide)]
      unfold trX
      rw [bsd_o (by decide), bsd_f (by omega) ht, bsd_o (by decide), bsd_o (by decide), bsd_o (by decide), thd]
    · rw [vu_eq, ud, if_neg (by decide), bsd_o (by decide)]
      unfold trX
      rw [bsd_f (by omega) ht, bsd_o (by decide), bsd_o (by decide), bsd_o (by decide), bsd_o (by decide), thd]
    · rw [vu_eq, ud, if_neg (by decide), bsd_f (by omega) ht, trX_1 (Or.inr (by decide)), thd]
  have bb : ∀ f m x, dB M I d f nt m → (!decide (trV n tc (p + 5) &&& m = 0)) = x → (∀ t, t < 32 → bt (thD I n tc d nt p d f) t = (bt (I d f) t || (x && decide (t = nt)))) → dB (rdThg M n tc nt p) (thD I n tc d nt p) d f (nt + 1) m := fun f m x h1 h2 h3 t ht => by
    show bt (thD I n tc d nt p d f) t = (decide (t < nt + 1) && !decide (rdThg M n tc nt p 74 t &&& m = 0))
    rw [h3 t ht, h1 t ht, m74]
    by_cases e : t = nt
    · rw [if_pos e, h2, decide_eq_true e, decide_eq_false (show ¬ t < nt by omega), decide_eq_true (show t < nt + 1 by omega)]
      simp
    · rw [if_neg e, decide_eq_false e, Bool.and_false, Bool.or_false]
      show (decide (t < nt) && _) = _
      congr 1
      rw [decide_eq_decide]
      omega
  have hpl : plV n tc (p + 2) < nr ∨ (10 ≤ plV n tc (p + 2) ∧ plV n tc (p + 2) < 10 + nt) := by
    unfold plOk at k4
    unfold plV
    by_cases e : cc n tc (p + 2) = 114
    · rw [if_pos e] at k4 ⊢
      unfold rmOk at k4
      simp only [Bool.and_eq_true, decide_eq_true_eq] at k4
      exact Or.inl k4.2
    · rw [if_neg e] at k4 ⊢
      unfold thOk at k4
      simp only [Bool.and_eq_true, decide_eq_true_eq] at k4
      exact Or.inr ⟨by omega, by omega⟩
  refine ⟨⟨?_, ?_, a3, by omega⟩, ⟨?_, ?_⟩, ⟨?_, ?_, ?_, ?_⟩, ⟨?_, ?_, ?_, ?_, ?_⟩, ?_, ⟨?_, ?_, ?_, ?_, ?_, ?_⟩, ?_, ?_⟩
  · rw [dk 0 (by decide) (by decide)]; exact a1
  · unfold thD trE
    rw [vu_eq, ud, if_pos rfl]
  · intro r hr
    rw [dk 2 (by decide) (by decide), m 69 (by decide) (by decide)]
    exact b1 r hr
  · rw [m 69 (by decide) (by decide)]; exact b2
  · rw [d1, m 76 (by decide) (by decide)]; exact c1
  · rw [d2, m 77 (by decide) (by decide)]; exact c2
  · rw [m 76 (by decide) (by decide)]; exact c3
  · rw [m 77 (by decide) (by decide)]
    intro k hk
    rcases c4 k hk with q | ⟨t, q1, q2, q3⟩
    · exact Or.inl q
    · exact Or.inr ⟨t, by omega, q2, by rw [m74, if_neg (by omega)]; exact q3⟩
  · intro t t1 t2
    rw [d3, m70]
    by_cases e : t = nt
    · rw [if_pos e, if_pos e]
    · rw [if_neg e, if_neg e]; exact e1 t t1 (by omega)
  · intro t t1 t2
    rw [d4, m71]
    by_cases e : t = nt
    · rw [if_pos e, if_pos e]
    · rw [if_neg e, if_neg e]; exact e2 t t1 (by omega)
  · intro t t1 t2
    rw [d5]
    unfold updN
    by_cases e : t = nt
    · rw [if_pos e, if_pos e]
    · rw [if_neg e, if_neg e]; exact e3 t t1 (by omega)
  · intro t t1 t2
    rw [d6, m73]
    by_cases e : t = nt
    · rw [if_pos e, if_pos e]
    · rw [if_neg e, if_neg e]; exact e4 t t1 (by omega)
  · intro t t1 t2
    rw [d7, m75]
    by_cases e : t = nt
    · rw [if_pos e, if_pos e]
    · rw [if_neg e, if_neg e]; exact e5 t t1 (by omega)
  · intro t t1 t2
    rw [d3, d4, d5, d6, d7, if_neg (show ¬ t = nt by omega), if_neg (show ¬ t = nt by omega), if_neg (show ¬ t = nt by omega), if_neg (show ¬ t = nt by omega), if_neg (show ¬ t = nt by omega)]
    exact f1 t t1 (by omega)
  · exact bb 10 1 _ g1 v1 (fun t ht => (bits t ht).1)
  · exact bb 11 2 _ g2 v2 (fun t ht => (bits t ht).2.1)
  · exact bb 12 4 _ g3 v3 (fun t ht => (bits t ht).2.2.1)
  · exact bb 13 8 _ g4 v4 (fun t ht => (bits t ht).2.2.2.1)
  · exact bb 14 16 _ g5 v5 (fun t ht => (bits t ht).2.2.2.2.1)
  · exact bb 15 32 _ g6 v6 (fun t ht => (bits t ht).2.2.2.2.2)
  · intro t ht
    rw [dk 16 (by decide) (by decide), ms]
    exact i1 t ht
  · intro t ht
    rw [m72]
    unfold updN
    by_cases e : t = nt
    · rw [if_pos e, if_pos e, e]
      exact ⟨rfl, hpl⟩
    · rw [if_neg e, if_neg e]
      exact i2 t (by omega)
end J4
