/-! ===== the class: weights ===== -/
theorem sm_add (f g : Nat → Int32) : ∀ n, sm (fun k => f k + g k) n = sm f n + sm g n
  | 0 => rfl
  | n + 1 => by
    rw [sm, sm, sm, sm_add f g n]
    rw [Int32.add_assoc, Int32.add_assoc, ← Int32.add_assoc (sm g n), Int32.add_comm (sm g n) (f n), Int32.add_assoc]
theorem sm_cong {f g : Nat → Int32} : ∀ {n : Nat}, (∀ k, k < n → f k = g k) → sm f n = sm g n
  | 0, _ => rfl
  | n + 1, h => by rw [sm, sm, sm_cong (fun k hk => h k (by omega)), h n (by omega)]
theorem sm_0 {f : Nat → Int32} : ∀ {n : Nat}, (∀ k, k < n → f k = 0) → sm f n = 0
  | 0, _ => rfl
  | n + 1, h => by rw [sm, sm_0 (fun k hk => h k (by omega)), h n (by omega)]; rfl
theorem sm_one {f : Nat → Int32} {t : Nat} : ∀ {n : Nat}, t < n → sm (fun k => if k = t then f k else 0) n = f t
  | 0, h => by omega
  | n + 1, h => by
    rw [sm]
    by_cases e : n = t
    · subst e
      rw [if_pos rfl, sm_0 (fun k hk => if_neg (by omega))]
      exact Int32.zero_add _
    · rw [if_neg e, sm_one (by omega)]
      exact Int32.add_zero _
theorem sm_more {f : Nat → Int32} {n : Nat} : ∀ {m : Nat}, n ≤ m → (∀ i, n ≤ i → i < m → f i = 0) → sm f m = sm f n
  | 0, h, _ => by rw [show n = 0 by omega]
  | m + 1, h, hz => by
    by_cases e : n = m + 1
    · rw [e]
    · rw [sm, sm_more (by omega) (fun i h1 h2 => hz i h1 (by omega)), hz m (by omega) (by omega)]
      exact Int32.add_zero _
/-- nothing is within itself -/
theorem wi_self {pl : Nat → Nat} {t : Nat} (ht : t < 16) (h : ends pl t) : wi pl t t = false := by
  cases c : wi pl t t with
  | false => rfl
  | true =>
    exfalso
    obtain ⟨i, hi, e⟩ := wi_iff.mp c
    have hin : inT (ch pl t i) = true := by
      unfold inT
      rw [e]
      exact decide_eq_true (by omega)
    have per : ∀ m, ch pl t (i + 1 + m) = ch pl t m := by
      intro m
      induction m with
      | zero =>
        show ch pl t (i + 1) = pl t
        rw [ch, nx_in hin, e]
        congr 1
        omega
      | succ m ih =>
        rw [show i + 1 + (m + 1) = (i + 1 + m) + 1 by omega, ch, ih, ch]
    obtain ⟨n, h1⟩ := h
    have hall : ∀ m, inT (ch pl t m) = true := by
      intro m
      cases c2 : inT (ch pl t m) with
      | true => rfl
      | false =>
        have big : ∀ q, ch pl t ((i + 1) * q + i) = ch pl t i := by
          intro q
          induction q with
          | zero => rw [Nat.mul_zero, Nat.zero_add]
          | succ q ih => rw [show (i + 1) * (q + 1) + i = i + 1 + ((i + 1) * q + i) by rw [Nat.mul_succ]; omega, per, ih]
        have := ch_stop c2 ((i + 1) * m + i) (by
          have : m ≤ (i + 1) * m := Nat.le_mul_of_pos_left m (by omega)
          omega)
        rw [big m] at this
        rw [this, c2] at hin
        cases hin
    rw [hall n] at h1
    cases h1
theorem mtot_eq {I Iw : Nat → Nat → Int32} {nr nt : Nat} {pl : Nat → Nat} (hW : mW Iw nr nt pl) {t : Nat} (ht : t < nt) : mtot I pl nt t = I 61 t + sm (fun k => if wi pl k t = true then I 61 k else 0) nt := by
  have h16 := hW.2.2.2.1
  have hw := wi_self (show t < 16 by omega) (hW.2.2.2.2.2 t ht)
  have e : mtot I pl nt t = sm (fun k => (if k = t then I 61 k else 0) + (if wi pl k t = true then I 61 k else 0)) nt := by
    unfold mtot
    refine sm_cong (fun k hk => ?_)
    by_cases c : k = t
    · subst c
      simp [hw]
    · simp [c]
  rw [e, sm_add, sm_one ht]
section C4
variable {E : tm_Env} {Q : Option Int32 → tm_St → Prop} {I : Nat → Nat → Int32} {J : Nat → Nat → Int64} {R : Nat → Nat → Option Nat} {h d : Nat} {nr nt y : Nat} {pl : Nat → Nat}
/-- the weights in the class -/
def cWt (I : Nat → Nat → Int32) (h nt : Nat) : Prop := ∀ t, t < 16 → I (h + 6) t = if t < nt then I 61 t else 0
theorem c_total_loop (hR : tRef h d R) {Iw : Nat → Nat → Int32} (hW : mW Iw nr nt pl) (hP : cP I nt pl) (hw : cWt I h nt) {t : Nat} (ht : t < nt) : ∀ j i acc, i + j = 16 → acc = I 61 t + sm (fun k => if k < nt ∧ wi pl k t = true then I 61 k else 0) i → tEv E 95 12 [.ref 12, .int (nI t), .int acc, .int (nI i)] [] (mS I J R) Q = Q (some (mtot I pl nt t)) (mS I J R)
  | 0, i, acc, hj, ha => by
    have h16 := hW.2.2.2.1
    obtain rfl : i = 16 := by omega
    have hn : (nI 16 < (16 : Int32)) = False := eq_false (by decide)
    rw [e_95_12]
    simp only [e_95_0, e_95_1, e_95_4, e_95_7, e_95_8, e_95_9, e_95_10, e_95_11, e_95_13, e_95_15, e_95_18, e_95_19, e_95_20, e_95_23, e_95_24, e_95_27, e_95_30, e_95_31, e_95_32, e_95_35, e_95_38, e_95_39, e_95_40, e_95_41, e_95_42, e_95_45, e_95_48, e_95_49, hn, if_false]
    rw [ha, mtot_eq hW ht, sm_more h16 (fun i h1 _ => if_neg (fun c => by omega))]
    rw [sm_cong (f := fun k => if k < nt ∧ wi pl k t = true then I 61 k else 0) (g := fun k => if wi pl k t = true then I 61 k else 0) (fun k hk => by simp only [hk, true_and])]
  | j + 1, i, acc, hj, ha => by
    have h16 := hW.2.2.2.1
    have hn : (nI i < (16 : Int32)) = True := eq_true (nI_lt (b := 16) (by omega) (by omega))
    have hix := inb_nI (j := i) (n := 16) (by omega) (by decide)
    have hcl := nI_cl (n := i) (by omega)
    have hwi := hw i (by omega)
    have ih := fun acc' e => c_total_loop hR hW hP hw ht j (i + 1) acc' (by omega) e
    rw [e_95_12]
    by_cases c : i < nt
    · rw [if_pos c] at hwi
      simp only [e_95_0, e_95_1, e_95_4, e_95_7, e_95_8, e_95_9, e_95_10, e_95_11, e_95_13, e_95_15, e_95_18, e_95_19, e_95_20, e_95_23, e_95_24, e_95_27, e_95_30, e_95_31, e_95_32, e_95_35, e_95_38, e_95_39, e_95_40, e_95_41, e_95_42, e_95_45, e_95_48, e_95_49, rf_0_0 hR, rf_0_1 hR, rf_0_2 hR, rf_0_3 hR, rf_0_4 hR, rf_0_5 hR, rf_0_6 hR, rf_1_0 hR, rf_3_0 hR, rf_3_2 hR, rf_4_3 hR, rf_4_4 hR, rf_4_5 hR, rf_4_6 hR, rf_4_7 hR, rf_4_8 hR, rf_4_9 hR, rf_12_1 hR, rf_13_3 hR, rf_13_4 hR, rf_13_5 hR, rf_13_6 hR, rf_13_7 hR, rf_13_8 hR, rf_13_9 hR, rf_21_0 hR, rf_21_1 hR, rf_24_0 hR, rf_25_0 hR, rf_26_0 hR, rf_26_1 hR, rf_26_2 hR, rf_26_3 hR, rf_26_4 hR, rf_26_5 hR, rf_26_6 hR, rf_26_7 hR, rf_27_0 hR, rf_27_1 hR, rf_30_0 hR, rf_30_1 hR, rf_33_0 hR, rf_33_1 hR, rf_36_0 hR, rf_36_1 hR, rf_39_0 hR, rf_39_1 hR, rf_42_0 hR, rf_42_1 hR, rf_45_0 hR, rf_45_1 hR, rf_48_0 hR, rf_48_1 hR, rf_51_0 hR, rf_51_1 hR, rf_51_6 hR, rf_51_7 hR, rf_h_3 hR, rf_d_3 hR, rf_h_4 hR, rf_d_4 hR, rf_h_5 hR, rf_d_5 hR, rf_h_6 hR, rf_d_6 hR, rf_h_7 hR, rf_d_7 hR, rf_h_8 hR, rf_d_8 hR, rf_h_9 hR, rf_d_9 hR, rf_12_0 hR, rf_3_1 hR, kn_0, kn_1, kn_2, kn_3, kn_4, kn_5, kn_6, kn_7, kn_8, kn_9, kn_10, kn_11, kn_12, kn_13, kn_14, kn_15, kn_16, kn_17, kn_18, kn_19, kn_20, kn_21, kn_22, kn_23, kn_24, kn_25, kn_26, kn_27, kn_28, kn_29, kn_30, kn_31, kn_32, kn_33, kn_34, kn_35, kn_36, kn_37, kn_38, kn_39, kn_40, kn_41, kn_42, kn_43, kn_44, kn_45, kn_46, kn_47, kn_48, kn_49, kn_50, kn_51, kn_52, kn_53, kn_54, kn_55, ln_2, ln_5, ln_6, ln_7, ln_8, ln_9, ln_10, ln_11, ln_14, ln_15, ln_16, ln_17, ln_18, ln_19, ln_20, ln_22, ln_23, ln_26, ln_28, ln_29, ln_31, ln_32, ln_34, ln_35, ln_37, ln_38, ln_40, ln_41, ln_43, ln_44, ln_46, ln_47, ln_49, ln_50, ln_52, kn_h hR, lt_h hR, kn_h1 hR, ln_h1 hR, lt_h1 hR, kn_h2 hR, ln_h2 hR, lt_h2 hR, kn_h3 hR, ln_h3 hR, lt_h3 hR, kn_h4 hR, ln_h4 hR, lt_h4 hR, kn_h5 hR, ln_h5 hR, lt_h5 hR, kn_h6 hR, ln_h6 hR, lt_h6 hR, kn_h7 hR, ln_h7 hR, lt_h7 hR, kn_d hR, lt_d hR, kn_d1 hR, ln_d1 hR, lt_d1 hR, kn_d2 hR, ln_d2 hR, lt_d2 hR, kn_d3 hR, ln_d3 hR, lt_d3 hR, kn_d4 hR, ln_d4 hR, lt_d4 hR, kn_d5 hR, ln_d5 hR, lt_d5 hR, kn_d6 hR, ln_d6 hR, lt_d6 hR, kn_d7 hR, ln_d7 hR, lt_d7 hR, va_rf_some, push_s, push_n, nb0, nb1, nbb, Nat.reduceLT, hn, if_true, c_holders hR hW hP c, c_has (show t < 32 by omega), so_bt (wi pl i) (show 16 ≤ 32 by decide) t (by omega), b2i_0, hix, hcl, hwi, nI_1]
      rw [decide_eq_true (show t < 16 by omega), Bool.true_and]
      cases c2 : wi pl i t with
      | false =>
        rw [if_pos rfl]
        exact ih _ (by rw [sm, ha, if_neg (by simp [c2])]; rw [Int32.add_zero])
      | true =>
        rw [if_neg (by decide)]
        exact ih _ (by rw [sm, ha, if_pos ⟨c, c2⟩, Int32.add_assoc])
    · simp only [e_95_0, e_95_1, e_95_4, e_95_7, e_95_8, e_95_9, e_95_10, e_95_11, e_95_13, e_95_15, e_95_18, e_95_19, e_95_20, e_95_23, e_95_24, e_95_27, e_95_30, e_95_31, e_95_32, e_95_35, e_95_38, e_95_39, e_95_40, e_95_41, e_95_42, e_95_45, e_95_48, e_95_49, rf_0_0 hR, rf_0_1 hR, rf_0_2 hR, rf_0_3 hR, rf_0_4 hR, rf_0_5 hR, rf_0_6 hR, rf_1_0 hR, rf_3_0 hR, rf_3_2 hR, rf_4_3 hR, rf_4_4 hR, rf_4_5 hR, rf_4_6 hR, rf_4_7 hR, rf_4_8 hR, rf_4_9 hR, rf_12_1 hR, rf_13_3 hR, rf_13_4 hR, rf_13_5 hR, rf_13_6 hR, rf_13_7 hR, rf_13_8 hR, rf_13_9 hR, rf_21_0 hR, rf_21_1 hR, rf_24_0 hR, rf_25_0 hR, rf_26_0 hR, rf_26_1 hR, rf_26_2 hR, rf_26_3 hR, rf_26_4 hR, rf_26_5 hR, rf_26_6 hR, rf_26_7 hR, rf_27_0 hR, rf_27_1 hR, rf_30_0 hR, rf_30_1 hR, rf_33_0 hR, rf_33_1 hR, rf_36_0 hR, rf_36_1 hR, rf_39_0 hR, rf_39_1 hR, rf_42_0 hR, rf_42_1 hR, rf_45_0 hR, rf_45_1 hR, rf_48_0 hR, rf_48_1 hR, rf_51_0 hR, rf_51_1 hR, rf_51_6 hR, rf_51_7 hR, rf_h_3 hR, rf_d_3 hR, rf_h_4 hR, rf_d_4 hR, rf_h_5 hR, rf_d_5 hR, rf_h_6 hR, rf_d_6 hR, rf_h_7 hR, rf_d_7 hR, rf_h_8 hR, rf_d_8 hR, rf_h_9 hR, rf_d_9 hR, rf_12_0 hR, rf_3_1 hR, kn_0, kn_1, kn_2, kn_3, kn_4, kn_5, kn_6, kn_7, kn_8, kn_9, kn_10, kn_11, kn_12, kn_13, kn_14, kn_15, kn_16, kn_17, kn_18, kn_19, kn_20, kn_21, kn_22, kn_23, kn_24, kn_25, kn_26, kn_27, kn_28, kn_29, kn_30, kn_31, kn_32, kn_33, kn_34, kn_35, kn_36, kn_37, kn_38, kn_39, kn_40, kn_41, kn_42, kn_43, kn_44, kn_45, kn_46, kn_47, kn_48, kn_49, kn_50, kn_51, kn_52, kn_53, kn_54, kn_55, ln_2, ln_5, ln_6, ln_7, ln_8, ln_9, ln_10, ln_11, ln_14, ln_15, ln_16, ln_17, ln_18, ln_19, ln_20, ln_22, ln_23, ln_26, ln_28, ln_29, ln_31, ln_32, ln_34, ln_35, ln_37, ln_38, ln_40, ln_41, ln_43, ln_44, ln_46, ln_47, ln_49, ln_50, ln_52, kn_h hR, lt_h hR, kn_h1 hR, ln_h1 hR, lt_h1 hR, kn_h2 hR, ln_h2 hR, lt_h2 hR, kn_h3 hR, ln_h3 hR, lt_h3 hR, kn_h4 hR, ln_h4 hR, lt_h4 hR, kn_h5 hR, ln_h5 hR, lt_h5 hR, kn_h6 hR, ln_h6 hR, lt_h6 hR, kn_h7 hR, ln_h7 hR, lt_h7 hR, kn_d hR, lt_d hR, kn_d1 hR, ln_d1 hR, lt_d1 hR, kn_d2 hR, ln_d2 hR, lt_d2 hR, kn_d3 hR, ln_d3 hR, lt_d3 hR, kn_d4 hR, ln_d4 hR, lt_d4 hR, kn_d5 hR, ln_d5 hR, lt_d5 hR, kn_d6 hR, ln_d6 hR, lt_d6 hR, kn_d7 hR, ln_d7 hR, lt_d7 hR, va_rf_some, push_s, push_n, nb0, nb1, nbb, Nat.reduceLT, hn, if_true, c_holders_no hR hP (show nt ≤ i by omega) (show i < 16 by omega), c_has (show t < 32 by omega), b_0, b2i_0, nI_1]
      exact ih _ (by rw [sm, ha, if_neg (by simp [c]), Int32.add_zero])
theorem c_total (hR : tRef h d R) {Iw : Nat → Nat → Int32} (hW : mW Iw nr nt pl) (hP : cP I nt pl) (hw : cWt I h nt) {t : Nat} (ht : t < nt) : tEv E 95 0 [.ref 12, .int (nI t), tm_dum, tm_dum] [] (mS I J R) Q = Q (some (mtot I pl nt t)) (mS I J R) := by
  have h16 := hW.2.2.2.1
  have hix := inb_nI (j := t) (n := 16) (by omega) (by decide)
  have hcl := nI_cl (n := t) (by omega)
  have hwi := hw t (by omega)
  rw [if_pos ht] at hwi
  simp only [e_95_0, e_95_1, e_95_4, e_95_7, e_95_8, e_95_9, e_95_10, e_95_11, rf_0_0 hR, rf_0_1 hR, rf_0_2 hR, rf_0_3 hR, rf_0_4 hR, rf_0_5 hR, rf_0_6 hR, rf_1_0 hR, rf_3_0 hR, rf_3_2 hR, rf_4_3 hR, rf_4_4 hR, rf_4_5 hR, rf_4_6 hR, rf_4_7 hR, rf_4_8 hR, rf_4_9 hR, rf_12_1 hR, rf_13_3 hR, rf_13_4 hR, rf_13_5 hR, rf_13_6 hR, rf_13_7 hR, rf_13_8 hR, rf_13_9 hR, rf_21_0 hR, rf_21_1 hR, rf_24_0 hR, rf_25_0 hR, rf_26_0 hR, rf_26_1 hR, rf_26_2 hR, rf_26_3 hR, rf_26_4 hR, rf_26_5 hR, rf_26_6 hR, rf_26_7 hR, rf_27_0 hR, rf_27_1 hR, rf_30_0 hR, rf_30_1 hR, rf_33_0 hR, rf_33_1 hR, rf_36_0 hR, rf_36_1 hR, rf_39_0 hR, rf_39_1 hR, rf_42_0 hR, rf_42_1 hR, rf_45_0 hR, rf_45_1 hR, rf_48_0 hR, rf_48_1 hR, rf_51_0 hR, rf_51_1 hR, rf_51_6 hR, rf_51_7 hR, rf_h_3 hR, rf_d_3 hR, rf_h_4 hR, rf_d_4 hR, rf_h_5 hR, rf_d_5 hR, rf_h_6 hR, rf_d_6 hR, rf_h_7 hR, rf_d_7 hR, rf_h_8 hR, rf_d_8 hR, rf_h_9 hR, rf_d_9 hR, rf_12_0 hR, rf_3_1 hR, kn_0, kn_1, kn_2, kn_3, kn_4, kn_5, kn_6, kn_7, kn_8, kn_9, kn_10, kn_11, kn_12, kn_13, kn_14, kn_15, kn_16, kn_17, kn_18, kn_19, kn_20, kn_21, kn_22, kn_23, kn_24, kn_25, kn_26, kn_27, kn_28, kn_29, kn_30, kn_31, kn_32, kn_33, kn_34, kn_35, kn_36, kn_37, kn_38, kn_39, kn_40, kn_41, kn_42, kn_43, kn_44, kn_45, kn_46, kn_47, kn_48, kn_49, kn_50, kn_51, kn_52, kn_53, kn_54, kn_55, ln_2, ln_5, ln_6, ln_7, ln_8, ln_9, ln_10, ln_11, ln_14, ln_15, ln_16, ln_17, ln_18, ln_19, ln_20, ln_22, ln_23, ln_26, ln_28, ln_29, ln_31, ln_32, ln_34, ln_35, ln_37, ln_38, ln_40, ln_41, ln_43, ln_44, ln_46, ln_47, ln_49, ln_50, ln_52, kn_h hR, lt_h hR, kn_h1 hR, ln_h1 hR, lt_h1 hR, kn_h2 hR, ln_h2 hR, lt_h2 hR, kn_h3 hR, ln_h3 hR, lt_h3 hR, kn_h4 hR, ln_h4 hR, lt_h4 hR, kn_h5 hR, ln_h5 hR, lt_h5 hR, kn_h6 hR, ln_h6 hR, lt_h6 hR, kn_h7 hR, ln_h7 hR, lt_h7 hR, kn_d hR, lt_d hR, kn_d1 hR, ln_d1 hR, lt_d1 hR, kn_d2 hR, ln_d2 hR, lt_d2 hR, kn_d3 hR, ln_d3 hR, lt_d3 hR, kn_d4 hR, ln_d4 hR, lt_d4 hR, kn_d5 hR, ln_d5 hR, lt_d5 hR, kn_d6 hR, ln_d6 hR, lt_d6 hR, kn_d7 hR, ln_d7 hR, lt_d7 hR, va_rf_some, push_s, push_n, nb0, nb1, nbb, Nat.reduceLT, hix, hcl, hwi]
  exact c_total_loop hR hW hP hw ht 16 0 _ (by omega) (Int32.add_zero _).symm
end C4
