/-! ===== the class: bits ===== -/
def uS (x k : Int32) : Int32 := (x.toUInt32 >>> (Int32.toUInt32 k &&& Int32.toUInt32 31)).toInt32
def jb1 (x : Int32) : Int32 := x - (uS x 1 &&& 1431655765)
def jb2 (x : Int32) : Int32 := (x &&& 858993459) + (uS x 2 &&& 858993459)
def jb3 (x : Int32) : Int32 := (x + uS x 4) &&& 252645135
def jb4 (x : Int32) : Int32 := x + uS x 8
def jb5 (x : Int32) : Int32 := x + uS x 16
/-- how many bits -/
def jbc (x : Int32) : Int32 := jb5 (jb4 (jb3 (jb2 (jb1 x)))) &&& 63
section C1
variable {E : tm_Env} {Q : Option Int32 → tm_St → Prop} {I : Nat → Nat → Int32} {J : Nat → Nat → Int64} {R : Nat → Nat → Option Nat} {h d : Nat} {n a c : Nat} {tc wn : Nat → Nat}
theorem c_has {S : tm_St} {x : Int32} {t : Nat} (ht : t < 32) : tEv E 26 0 [.int x, .int (nI t)] [] S Q = Q (some (b2i (bt x t))) S := by
  simp only [e_26_0, e_26_1, e_26_2, e_26_3, e_26_4, e_26_5, e_26_8, e_26_9, e_26_12, e_26_13, va_rf_some, push_s, push_n, nb0, nb1, nbb, Nat.reduceLT, hasv x ht, b2i_0]
  cases bt x t <;> rfl
theorem c_bitOf {S : tm_St} {x : Int32} {t : Nat} (ht : t < 32) : tEv E 197 0 [.int x, .int (nI t)] [] S Q = Q (some (b2i (bt x t))) S := by
  simp only [e_197_0, e_197_1, e_197_2, e_197_3, e_197_4, e_197_5, va_rf_some, push_s, push_n, nb0, nb1, nbb, Nat.reduceLT, hasv x ht]
theorem c_needsTwo {S : tm_St} {a : Nat} (ha : a < 100) : tEv E 91 0 [.int (nI a)] [] S Q = Q (some (b2i (of2 a))) S := by
  have e2 : (nI a = 2) = (a = 2) := propext (nI_eq (b := 2) (by omega) (by omega))
  have e3 : (nI a = 3) = (a = 3) := propext (nI_eq (b := 3) (by omega) (by omega))
  have e6 : (nI a = 6) = (a = 6) := propext (nI_eq (b := 6) (by omega) (by omega))
  have e7 : (nI a = 7) = (a = 7) := propext (nI_eq (b := 7) (by omega) (by omega))
  have e11 : (nI a = 11) = (a = 11) := propext (nI_eq (b := 11) (by omega) (by omega))
  simp only [e_91_0, e_91_1, e_91_2, e_91_5, e_91_6, e_91_7, e_91_10, e_91_11, e_91_13, e_91_16, e_91_17, e_91_19, e_91_22, e_91_23, e_91_25, e_91_28, e_91_29, e_91_32, e_91_33, va_rf_some, push_s, push_n, nb0, nb1, nbb, Nat.reduceLT, e2, e3, e6, e7, e11]
  unfold of2
  by_cases h2 : a = 2
  · simp [h2, b2i]
  · by_cases h3 : a = 3
    · simp [h3, b2i]
    · by_cases h6 : a = 6
      · simp [h6, b2i]
      · by_cases h7 : a = 7
        · simp [h7, b2i]
        · by_cases h11 : a = 11
          · simp [h11, b2i]
          · simp [h2, h3, h6, h7, h11, b2i]
theorem c_bitCount {S : tm_St} {x : Int32} : tEv E 111 0 [.int x] [] S Q = Q (some (jbc x)) S := by
  simp only [e_111_0, e_111_1, e_111_2, e_111_3, e_111_4, e_111_7, e_111_8, e_111_9, e_111_10, e_111_11, e_111_14, e_111_15, e_111_16, e_111_17, e_111_18, e_111_21, e_111_22, e_111_23, e_111_24, e_111_25, e_111_26, e_111_27, e_111_28, e_111_29, e_111_32, e_111_33, e_111_34, e_111_35, e_111_36, e_111_38, e_111_39, e_111_40, e_111_41, e_111_42, e_111_43, e_111_45, e_111_46, e_111_47, e_111_48, e_111_49, e_111_51, e_111_52, va_rf_some, push_s, push_n, nb0, nb1, nbb, Nat.reduceLT]
  rfl
end C1
/-- a place as the class tells it -/
def cv (p : Nat) : Nat := if p < 10 then p else if p = 30 then 22 else p - 4
/-- the places in the class: cell 22 -/
def cP (I : Nat → Nat → Int32) (nt : Nat) (pl : Nat → Nat) : Prop := ∀ t, t < 16 → I 22 t = nI (if t < nt then cv (pl t) else 23)
theorem cv_in {I : Nat → Nat → Int32} {nr nt : Nat} {pl : Nat → Nat} (hW : mW I nr nt pl) {t : Nat} (ht : t < nt) (k : Nat) : cv (ch pl t k) < 23 ∧ (6 ≤ cv (ch pl t k) ∧ cv (ch pl t k) < 22 ↔ inT (ch pl t k) = true) ∧ (inT (ch pl t k) = true → cv (ch pl t k) - 6 = ch pl t k - 10) := by
  have h6 := hW.2.2.1
  have h16 := hW.2.2.2.1
  have h := mW_ch hW ht k
  unfold cv inT
  rw [decide_eq_true_eq]
  split
  · omega
  · split
    · omega
    · omega
theorem cv_30 {I : Nat → Nat → Int32} {nr nt : Nat} {pl : Nat → Nat} (hW : mW I nr nt pl) {t : Nat} (ht : t < nt) (k : Nat) : (cv (ch pl t k) = 22) = (ch pl t k = 30) := by
  have h6 := hW.2.2.1
  have h16 := hW.2.2.2.1
  have h := mW_ch hW ht k
  apply propext
  unfold cv
  split
  · omega
  · split
    · omega
    · omega
section C2
variable {E : tm_Env} {Q : Option Int32 → tm_St → Prop} {I : Nat → Nat → Int32} {J : Nat → Nat → Int64} {R : Nat → Nat → Option Nat} {h d : Nat} {nr nt : Nat} {pl : Nat → Nat}
theorem c_isHeld (hR : tRef h d R) {Iw : Nat → Nat → Int32} (hW : mW Iw nr nt pl) (hP : cP I nt pl) {t : Nat} (ht : t < nt) : tEv E 92 0 [.ref 12, .int (nI t)] [] (mS I J R) Q = Q (some (b2i (decide (pl t = 30)))) (mS I J R) := by
  have h16 := hW.2.2.2.1
  have hix := inb_nI (j := t) (n := 16) (by omega) (by decide)
  have hcl := nI_cl (n := t) (by omega)
  have hp := hP t (by omega)
  rw [if_pos ht] at hp
  have hc := cv_in hW ht 0
  have h30 := cv_30 hW ht 0
  have e : (nI (cv (pl t)) = 22) = (pl t = 30) := (propext (nI_eq (b := 22) (by have := hc.1; show cv (ch pl t 0) < _; omega) (by omega))).trans h30
  simp only [e_92_0, e_92_1, e_92_4, e_92_7, e_92_8, e_92_9, e_92_11, e_92_14, e_92_15, e_92_18, e_92_19, rf_0_0 hR, rf_0_1 hR, rf_0_2 hR, rf_0_3 hR, rf_0_4 hR, rf_0_5 hR, rf_0_6 hR, rf_1_0 hR, rf_3_0 hR, rf_3_2 hR, rf_4_3 hR, rf_4_4 hR, rf_4_5 hR, rf_4_6 hR, rf_4_7 hR, rf_4_8 hR, rf_4_9 hR, rf_12_1 hR, rf_13_3 hR, rf_13_4 hR, rf_13_5 hR, rf_13_6 hR, rf_13_7 hR, rf_13_8 hR, rf_13_9 hR, rf_21_0 hR, rf_21_1 hR, rf_24_0 hR, rf_25_0 hR, rf_26_0 hR, rf_26_1 hR, rf_26_2 hR, rf_26_3 hR, rf_26_4 hR, rf_26_5 hR, rf_26_6 hR, rf_26_7 hR, rf_27_0 hR, rf_27_1 hR, rf_30_0 hR, rf_30_1 hR, rf_33_0 hR, rf_33_1 hR, rf_36_0 hR, rf_36_1 hR, rf_39_0 hR, rf_39_1 hR, rf_42_0 hR, rf_42_1 hR, rf_45_0 hR, rf_45_1 hR, rf_48_0 hR, rf_48_1 hR, rf_51_0 hR, rf_51_1 hR, rf_51_6 hR, rf_51_7 hR, rf_h_3 hR, rf_d_3 hR, rf_h_4 hR, rf_d_4 hR, rf_h_5 hR, rf_d_5 hR, rf_h_6 hR, rf_d_6 hR, rf_h_7 hR, rf_d_7 hR, rf_h_8 hR, rf_d_8 hR, rf_h_9 hR, rf_d_9 hR, rf_12_0 hR, rf_3_1 hR, kn_0, kn_1, kn_2, kn_3, kn_4, kn_5, kn_6, kn_7, kn_8, kn_9, kn_10, kn_11, kn_12, kn_13, kn_14, kn_15, kn_16, kn_17, kn_18, kn_19, kn_20, kn_21, kn_22, kn_23, kn_24, kn_25, kn_26, kn_27, kn_28, kn_29, kn_30, kn_31, kn_32, kn_33, kn_34, kn_35, kn_36, kn_37, kn_38, kn_39, kn_40, kn_41, kn_42, kn_43, kn_44, kn_45, kn_46, kn_47, kn_48, kn_49, kn_50, kn_51, kn_52, kn_53, kn_54, kn_55, ln_2, ln_5, ln_6, ln_7, ln_8, ln_9, ln_10, ln_11, ln_14, ln_15, ln_16, ln_17, ln_18, ln_19, ln_20, ln_22, ln_23, ln_26, ln_28, ln_29, ln_31, ln_32, ln_34, ln_35, ln_37, ln_38, ln_40, ln_41, ln_43, ln_44, ln_46, ln_47, ln_49, ln_50, ln_52, kn_h hR, lt_h hR, kn_h1 hR, ln_h1 hR, lt_h1 hR, kn_h2 hR, ln_h2 hR, lt_h2 hR, kn_h3 hR, ln_h3 hR, lt_h3 hR, kn_h4 hR, ln_h4 hR, lt_h4 hR, kn_h5 hR, ln_h5 hR, lt_h5 hR, kn_h6 hR, ln_h6 hR, lt_h6 hR, kn_h7 hR, ln_h7 hR, lt_h7 hR, kn_d hR, lt_d hR, kn_d1 hR, ln_d1 hR, lt_d1 hR, kn_d2 hR, ln_d2 hR, lt_d2 hR, kn_d3 hR, ln_d3 hR, lt_d3 hR, kn_d4 hR, ln_d4 hR, lt_d4 hR, kn_d5 hR, ln_d5 hR, lt_d5 hR, kn_d6 hR, ln_d6 hR, lt_d6 hR, kn_d7 hR, ln_d7 hR, lt_d7 hR, va_rf_some, push_s, push_n, nb0, nb1, nbb, Nat.reduceLT, hix, hcl, hp, e]
  by_cases q : pl t = 30 <;> simp [q, b2i]
theorem c_comesTo_loop (hR : tRef h d R) {Iw : Nat → Nat → Int32} (hW : mW Iw nr nt pl) (hP : cP I nt pl) {t : Nat} (ht : t < nt) : ∀ j i, i + j = 16 → (∀ k, k < i → inT (ch pl t k) = true) → tEv E 93 12 [.ref 12, .int (nI t), .int (nI (cv (ch pl t i))), .int (nI i)] [] (mS I J R) Q = Q (some (nI (cv (fin pl t)))) (mS I J R)
  | 0, i, hj, hb => by
    exfalso
    obtain ⟨n, h1, h2, -⟩ := ends_15 (Nat.lt_of_lt_of_le ht hW.2.2.2.1) (hW.2.2.2.2.2 t ht)
    have := hb n (by omega)
    rw [h2] at this
    cases this
  | j + 1, i, hj, hb => by
    have h16 := hW.2.2.2.1
    have hc := cv_in hW ht i
    have hn : (nI i < (16 : Int32)) = True := eq_true (nI_lt (b := 16) (by omega) (by omega))
    have l6 : (nI (cv (ch pl t i)) < 6) = (cv (ch pl t i) < 6) := propext (nI_ltI (b := 6) (by omega) (by omega))
    have l22 : (nI (cv (ch pl t i)) < 22) = (cv (ch pl t i) < 22) := propext (nI_ltI (b := 22) (by omega) (by omega))
    rw [e_93_12]
    by_cases hi : inT (ch pl t i) = true
    · have hcc := hc.2.1.mpr hi
      obtain ⟨g1, g2, -⟩ := mW_in hW ht hi
      have e6 : nI (cv (ch pl t i)) - 6 = nI (ch pl t i - 10) := by
        rw [show nI (cv (ch pl t i)) - 6 = nI (cv (ch pl t i) - 6) from pk_sub (b := 6) hcc.1, hc.2.2 hi]
      have hix := inb_nI (j := ch pl t i - 10) (n := 16) (by omega) (by decide)
      have hcl := nI_cl (n := ch pl t i - 10) (by omega)
      have hp := hP (ch pl t i - 10) (by omega)
      rw [if_pos g1] at hp
      have hnx : pl (ch pl t i - 10) = ch pl t (i + 1) := by rw [ch, nx_in hi]
      rw [hnx] at hp
      have f6 : (cv (ch pl t i) < 6) = False := eq_false (by omega)
      have t22 : (cv (ch pl t i) < 22) = True := eq_true hcc.2
      simp only [e_93_0, e_93_1, e_93_4, e_93_7, e_93_8, e_93_9, e_93_10, e_93_11, e_93_13, e_93_15, e_93_18, e_93_19, e_93_21, e_93_24, e_93_25, e_93_27, e_93_30, e_93_31, e_93_34, e_93_37, e_93_38, e_93_40, e_93_41, e_93_42, e_93_43, e_93_46, e_93_49, e_93_50, rf_0_0 hR, rf_0_1 hR, rf_0_2 hR, rf_0_3 hR, rf_0_4 hR, rf_0_5 hR, rf_0_6 hR, rf_1_0 hR, rf_3_0 hR, rf_3_2 hR, rf_4_3 hR, rf_4_4 hR, rf_4_5 hR, rf_4_6 hR, rf_4_7 hR, rf_4_8 hR, rf_4_9 hR, rf_12_1 hR, rf_13_3 hR, rf_13_4 hR, rf_13_5 hR, rf_13_6 hR, rf_13_7 hR, rf_13_8 hR, rf_13_9 hR, rf_21_0 hR, rf_21_1 hR, rf_24_0 hR, rf_25_0 hR, rf_26_0 hR, rf_26_1 hR, rf_26_2 hR, rf_26_3 hR, rf_26_4 hR, rf_26_5 hR, rf_26_6 hR, rf_26_7 hR, rf_27_0 hR, rf_27_1 hR, rf_30_0 hR, rf_30_1 hR, rf_33_0 hR, rf_33_1 hR, rf_36_0 hR, rf_36_1 hR, rf_39_0 hR, rf_39_1 hR, rf_42_0 hR, rf_42_1 hR, rf_45_0 hR, rf_45_1 hR, rf_48_0 hR, rf_48_1 hR, rf_51_0 hR, rf_51_1 hR, rf_51_6 hR, rf_51_7 hR, rf_h_3 hR, rf_d_3 hR, rf_h_4 hR, rf_d_4 hR, rf_h_5 hR, rf_d_5 hR, rf_h_6 hR, rf_d_6 hR, rf_h_7 hR, rf_d_7 hR, rf_h_8 hR, rf_d_8 hR, rf_h_9 hR, rf_d_9 hR, rf_12_0 hR, rf_3_1 hR, kn_0, kn_1, kn_2, kn_3, kn_4, kn_5, kn_6, kn_7, kn_8, kn_9, kn_10, kn_11, kn_12, kn_13, kn_14, kn_15, kn_16, kn_17, kn_18, kn_19, kn_20, kn_21, kn_22, kn_23, kn_24, kn_25, kn_26, kn_27, kn_28, kn_29, kn_30, kn_31, kn_32, kn_33, kn_34, kn_35, kn_36, kn_37, kn_38, kn_39, kn_40, kn_41, kn_42, kn_43, kn_44, kn_45, kn_46, kn_47, kn_48, kn_49, kn_50, kn_51, kn_52, kn_53, kn_54, kn_55, ln_2, ln_5, ln_6, ln_7, ln_8, ln_9, ln_10, ln_11, ln_14, ln_15, ln_16, ln_17, ln_18, ln_19, ln_20, ln_22, ln_23, ln_26, ln_28, ln_29, ln_31, ln_32, ln_34, ln_35, ln_37, ln_38, ln_40, ln_41, ln_43, ln_44, ln_46, ln_47, ln_49, ln_50, ln_52, kn_h hR, lt_h hR, kn_h1 hR, ln_h1 hR, lt_h1 hR, kn_h2 hR, ln_h2 hR, lt_h2 hR, kn_h3 hR, ln_h3 hR, lt_h3 hR, kn_h4 hR, ln_h4 hR, lt_h4 hR, kn_h5 hR, ln_h5 hR, lt_h5 hR, kn_h6 hR, ln_h6 hR, lt_h6 hR, kn_h7 hR, ln_h7 hR, lt_h7 hR, kn_d hR, lt_d hR, kn_d1 hR, ln_d1 hR, lt_d1 hR, kn_d2 hR, ln_d2 hR, lt_d2 hR, kn_d3 hR, ln_d3 hR, lt_d3 hR, kn_d4 hR, ln_d4 hR, lt_d4 hR, kn_d5 hR, ln_d5 hR, lt_d5 hR, kn_d6 hR, ln_d6 hR, lt_d6 hR, kn_d7 hR, ln_d7 hR, lt_d7 hR, va_rf_some, push_s, push_n, nb0, nb1, nbb, Nat.reduceLT, hn, if_true, l6, l22, f6, t22, if_false, e6, hix, hcl, hp, nI_1]
      exact c_comesTo_loop hR hW hP ht j (i + 1) (by omega) (fun k hk => by
        by_cases hk2 : k < i
        · exact hb k hk2
        · obtain rfl : k = i := by omega
          exact hi)
    · have hf : inT (ch pl t i) = false := by simpa using hi
      have e := fin_of (Nat.lt_of_lt_of_le ht h16) hf
      have hno : ¬ (6 ≤ cv (ch pl t i) ∧ cv (ch pl t i) < 22) := fun q => hi (hc.2.1.mp q)
      rw [e]
      by_cases c6 : cv (ch pl t i) < 6
      · simp only [e_93_0, e_93_1, e_93_4, e_93_7, e_93_8, e_93_9, e_93_10, e_93_11, e_93_13, e_93_15, e_93_18, e_93_19, e_93_21, e_93_24, e_93_25, e_93_27, e_93_30, e_93_31, e_93_34, e_93_37, e_93_38, e_93_40, e_93_41, e_93_42, e_93_43, e_93_46, e_93_49, e_93_50, rf_0_0 hR, rf_0_1 hR, rf_0_2 hR, rf_0_3 hR, rf_0_4 hR, rf_0_5 hR, rf_0_6 hR, rf_1_0 hR, rf_3_0 hR, rf_3_2 hR, rf_4_3 hR, rf_4_4 hR, rf_4_5 hR, rf_4_6 hR, rf_4_7 hR, rf_4_8 hR, rf_4_9 hR, rf_12_1 hR, rf_13_3 hR, rf_13_4 hR, rf_13_5 hR, rf_13_6 hR, rf_13_7 hR, rf_13_8 hR, rf_13_9 hR, rf_21_0 hR, rf_21_1 hR, rf_24_0 hR, rf_25_0 hR, rf_26_0 hR, rf_26_1 hR, rf_26_2 hR, rf_26_3 hR, rf_26_4 hR, rf_26_5 hR, rf_26_6 hR, rf_26_7 hR, rf_27_0 hR, rf_27_1 hR, rf_30_0 hR, rf_30_1 hR, rf_33_0 hR, rf_33_1 hR, rf_36_0 hR, rf_36_1 hR, rf_39_0 hR, rf_39_1 hR, rf_42_0 hR, rf_42_1 hR, rf_45_0 hR, rf_45_1 hR, rf_48_0 hR, rf_48_1 hR, rf_51_0 hR, rf_51_1 hR, rf_51_6 hR, rf_51_7 hR, rf_h_3 hR, rf_d_3 hR, rf_h_4 hR, rf_d_4 hR, rf_h_5 hR, rf_d_5 hR, rf_h_6 hR, rf_d_6 hR, rf_h_7 hR, rf_d_7 hR, rf_h_8 hR, rf_d_8 hR, rf_h_9 hR, rf_d_9 hR, rf_12_0 hR, rf_3_1 hR, kn_0, kn_1, kn_2, kn_3, kn_4, kn_5, kn_6, kn_7, kn_8, kn_9, kn_10, kn_11, kn_12, kn_13, kn_14, kn_15, kn_16, kn_17, kn_18, kn_19, kn_20, kn_21, kn_22, kn_23, kn_24, kn_25, kn_26, kn_27, kn_28, kn_29, kn_30, kn_31, kn_32, kn_33, kn_34, kn_35, kn_36, kn_37, kn_38, kn_39, kn_40, kn_41, kn_42, kn_43, kn_44, kn_45, kn_46, kn_47, kn_48, kn_49, kn_50, kn_51, kn_52, kn_53, kn_54, kn_55, ln_2, ln_5, ln_6, ln_7, ln_8, ln_9, ln_10, ln_11, ln_14, ln_15, ln_16, ln_17, ln_18, ln_19, ln_20, ln_22, ln_23, ln_26, ln_28, ln_29, ln_31, ln_32, ln_34, ln_35, ln_37, ln_38, ln_40, ln_41, ln_43, ln_44, ln_46, ln_47, ln_49, ln_50, ln_52, kn_h hR, lt_h hR, kn_h1 hR, ln_h1 hR, lt_h1 hR, kn_h2 hR, ln_h2 hR, lt_h2 hR, kn_h3 hR, ln_h3 hR, lt_h3 hR, kn_h4 hR, ln_h4 hR, lt_h4 hR, kn_h5 hR, ln_h5 hR, lt_h5 hR, kn_h6 hR, ln_h6 hR, lt_h6 hR, kn_h7 hR, ln_h7 hR, lt_h7 hR, kn_d hR, lt_d hR, kn_d1 hR, ln_d1 hR, lt_d1 hR, kn_d2 hR, ln_d2 hR, lt_d2 hR, kn_d3 hR, ln_d3 hR, lt_d3 hR, kn_d4 hR, ln_d4 hR, lt_d4 hR, kn_d5 hR, ln_d5 hR, lt_d5 hR, kn_d6 hR, ln_d6 hR, lt_d6 hR, kn_d7 hR, ln_d7 hR, lt_d7 hR, va_rf_some, push_s, push_n, nb0, nb1, nbb, Nat.reduceLT, hn, if_true, l6, l22, c6]
      · have c22 : ¬ cv (ch pl t i) < 22 := by omega
        simp only [e_93_0, e_93_1, e_93_4, e_93_7, e_93_8, e_93_9, e_93_10, e_93_11, e_93_13, e_93_15, e_93_18, e_93_19, e_93_21, e_93_24, e_93_25, e_93_27, e_93_30, e_93_31, e_93_34, e_93_37, e_93_38, e_93_40, e_93_41, e_93_42, e_93_43, e_93_46, e_93_49, e_93_50, rf_0_0 hR, rf_0_1 hR, rf_0_2 hR, rf_0_3 hR, rf_0_4 hR, rf_0_5 hR, rf_0_6 hR, rf_1_0 hR, rf_3_0 hR, rf_3_2 hR, rf_4_3 hR, rf_4_4 hR, rf_4_5 hR, rf_4_6 hR, rf_4_7 hR, rf_4_8 hR, rf_4_9 hR, rf_12_1 hR, rf_13_3 hR, rf_13_4 hR, rf_13_5 hR, rf_13_6 hR, rf_13_7 hR, rf_13_8 hR, rf_13_9 hR, rf_21_0 hR, rf_21_1 hR, rf_24_0 hR, rf_25_0 hR, rf_26_0 hR, rf_26_1 hR, rf_26_2 hR, rf_26_3 hR, rf_26_4 hR, rf_26_5 hR, rf_26_6 hR, rf_26_7 hR, rf_27_0 hR, rf_27_1 hR, rf_30_0 hR, rf_30_1 hR, rf_33_0 hR, rf_33_1 hR, rf_36_0 hR, rf_36_1 hR, rf_39_0 hR, rf_39_1 hR, rf_42_0 hR, rf_42_1 hR, rf_45_0 hR, rf_45_1 hR, rf_48_0 hR, rf_48_1 hR, rf_51_0 hR, rf_51_1 hR, rf_51_6 hR, rf_51_7 hR, rf_h_3 hR, rf_d_3 hR, rf_h_4 hR, rf_d_4 hR, rf_h_5 hR, rf_d_5 hR, rf_h_6 hR, rf_d_6 hR, rf_h_7 hR, rf_d_7 hR, rf_h_8 hR, rf_d_8 hR, rf_h_9 hR, rf_d_9 hR, rf_12_0 hR, rf_3_1 hR, kn_0, kn_1, kn_2, kn_3, kn_4, kn_5, kn_6, kn_7, kn_8, kn_9, kn_10, kn_11, kn_12, kn_13, kn_14, kn_15, kn_16, kn_17, kn_18, kn_19, kn_20, kn_21, kn_22, kn_23, kn_24, kn_25, kn_26, kn_27, kn_28, kn_29, kn_30, kn_31, kn_32, kn_33, kn_34, kn_35, kn_36, kn_37, kn_38, kn_39, kn_40, kn_41, kn_42, kn_43, kn_44, kn_45, kn_46, kn_47, kn_48, kn_49, kn_50, kn_51, kn_52, kn_53, kn_54, kn_55, ln_2, ln_5, ln_6, ln_7, ln_8, ln_9, ln_10, ln_11, ln_14, ln_15, ln_16, ln_17, ln_18, ln_19, ln_20, ln_22, ln_23, ln_26, ln_28, ln_29, ln_31, ln_32, ln_34, ln_35, ln_37, ln_38, ln_40, ln_41, ln_43, ln_44, ln_46, ln_47, ln_49, ln_50, ln_52, kn_h hR, lt_h hR, kn_h1 hR, ln_h1 hR, lt_h1 hR, kn_h2 hR, ln_h2 hR, lt_h2 hR, kn_h3 hR, ln_h3 hR, lt_h3 hR, kn_h4 hR, ln_h4 hR, lt_h4 hR, kn_h5 hR, ln_h5 hR, lt_h5 hR, kn_h6 hR, ln_h6 hR, lt_h6 hR, kn_h7 hR, ln_h7 hR, lt_h7 hR, kn_d hR, lt_d hR, kn_d1 hR, ln_d1 hR, lt_d1 hR, kn_d2 hR, ln_d2 hR, lt_d2 hR, kn_d3 hR, ln_d3 hR, lt_d3 hR, kn_d4 hR, ln_d4 hR, lt_d4 hR, kn_d5 hR, ln_d5 hR, lt_d5 hR, kn_d6 hR, ln_d6 hR, lt_d6 hR, kn_d7 hR, ln_d7 hR, lt_d7 hR, va_rf_some, push_s, push_n, nb0, nb1, nbb, Nat.reduceLT, hn, if_true, l6, l22, c6, c22, if_false]
theorem c_comesTo (hR : tRef h d R) {Iw : Nat → Nat → Int32} (hW : mW Iw nr nt pl) (hP : cP I nt pl) {t : Nat} (ht : t < nt) : tEv E 93 0 [.ref 12, .int (nI t), tm_dum, tm_dum] [] (mS I J R) Q = Q (some (nI (cv (fin pl t)))) (mS I J R) := by
  have h16 := hW.2.2.2.1
  have hix := inb_nI (j := t) (n := 16) (by omega) (by decide)
  have hcl := nI_cl (n := t) (by omega)
  have hp := hP t (by omega)
  rw [if_pos ht] at hp
  simp only [e_93_0, e_93_1, e_93_4, e_93_7, e_93_8, e_93_9, e_93_10, e_93_11, rf_0_0 hR, rf_0_1 hR, rf_0_2 hR, rf_0_3 hR, rf_0_4 hR, rf_0_5 hR, rf_0_6 hR, rf_1_0 hR, rf_3_0 hR, rf_3_2 hR, rf_4_3 hR, rf_4_4 hR, rf_4_5 hR, rf_4_6 hR, rf_4_7 hR, rf_4_8 hR, rf_4_9 hR, rf_12_1 hR, rf_13_3 hR, rf_13_4 hR, rf_13_5 hR, rf_13_6 hR, rf_13_7 hR, rf_13_8 hR, rf_13_9 hR, rf_21_0 hR, rf_21_1 hR, rf_24_0 hR, rf_25_0 hR, rf_26_0 hR, rf_26_1 hR, rf_26_2 hR, rf_26_3 hR, rf_26_4 hR, rf_26_5 hR, rf_26_6 hR, rf_26_7 hR, rf_27_0 hR, rf_27_1 hR, rf_30_0 hR, rf_30_1 hR, rf_33_0 hR, rf_33_1 hR, rf_36_0 hR, rf_36_1 hR, rf_39_0 hR, rf_39_1 hR, rf_42_0 hR, rf_42_1 hR, rf_45_0 hR, rf_45_1 hR, rf_48_0 hR, rf_48_1 hR, rf_51_0 hR, rf_51_1 hR, rf_51_6 hR, rf_51_7 hR, rf_h_3 hR, rf_d_3 hR, rf_h_4 hR, rf_d_4 hR, rf_h_5 hR, rf_d_5 hR, rf_h_6 hR, rf_d_6 hR, rf_h_7 hR, rf_d_7 hR, rf_h_8 hR, rf_d_8 hR, rf_h_9 hR, rf_d_9 hR, rf_12_0 hR, rf_3_1 hR, kn_0, kn_1, kn_2, kn_3, kn_4, kn_5, kn_6, kn_7, kn_8, kn_9, kn_10, kn_11, kn_12, kn_13, kn_14, kn_15, kn_16, kn_17, kn_18, kn_19, kn_20, kn_21, kn_22, kn_23, kn_24, kn_25, kn_26, kn_27, kn_28, kn_29, kn_30, kn_31, kn_32, kn_33, kn_34, kn_35, kn_36, kn_37, kn_38, kn_39, kn_40, kn_41, kn_42, kn_43, kn_44, kn_45, kn_46, kn_47, kn_48, kn_49, kn_50, kn_51, kn_52, kn_53, kn_54, kn_55, ln_2, ln_5, ln_6, ln_7, ln_8, ln_9, ln_10, ln_11, ln_14, ln_15, ln_16, ln_17, ln_18, ln_19, ln_20, ln_22, ln_23, ln_26, ln_28, ln_29, ln_31, ln_32, ln_34, ln_35, ln_37, ln_38, ln_40, ln_41, ln_43, ln_44, ln_46, ln_47, ln_49, ln_50, ln_52, kn_h hR, lt_h hR, kn_h1 hR, ln_h1 hR, lt_h1 hR, kn_h2 hR, ln_h2 hR, lt_h2 hR, kn_h3 hR, ln_h3 hR, lt_h3 hR, kn_h4 hR, ln_h4 hR, lt_h4 hR, kn_h5 hR, ln_h5 hR, lt_h5 hR, kn_h6 hR, ln_h6 hR, lt_h6 hR, kn_h7 hR, ln_h7 hR, lt_h7 hR, kn_d hR, lt_d hR, kn_d1 hR, ln_d1 hR, lt_d1 hR, kn_d2 hR, ln_d2 hR, lt_d2 hR, kn_d3 hR, ln_d3 hR, lt_d3 hR, kn_d4 hR, ln_d4 hR, lt_d4 hR, kn_d5 hR, ln_d5 hR, lt_d5 hR, kn_d6 hR, ln_d6 hR, lt_d6 hR, kn_d7 hR, ln_d7 hR, lt_d7 hR, va_rf_some, push_s, push_n, nb0, nb1, nbb, Nat.reduceLT, hix, hcl, hp]
  exact c_comesTo_loop hR hW hP ht 16 0 (by omega) (fun k hk => by omega)
theorem c_comesTo_no (hR : tRef h d R) (hP : cP I nt pl) {t : Nat} (ht : nt ≤ t) (h16 : t < 16) : tEv E 93 0 [.ref 12, .int (nI t), tm_dum, tm_dum] [] (mS I J R) Q = Q (some 23) (mS I J R) := by
  have hix := inb_nI (j := t) (n := 16) (by omega) (by decide)
  have hcl := nI_cl (n := t) (by omega)
  have hp := hP t h16
  rw [if_neg (by omega)] at hp
  simp only [e_93_0, e_93_1, e_93_4, e_93_7, e_93_8, e_93_9, e_93_10, e_93_11, e_93_12, e_93_13, e_93_15, e_93_18, e_93_19, e_93_21, e_93_24, e_93_25, e_93_27, e_93_30, e_93_31, e_93_34, e_93_37, e_93_38, e_93_40, e_93_41, e_93_42, e_93_43, e_93_46, e_93_49, e_93_50, rf_0_0 hR, rf_0_1 hR, rf_0_2 hR, rf_0_3 hR, rf_0_4 hR, rf_0_5 hR, rf_0_6 hR, rf_1_0 hR, rf_3_0 hR, rf_3_2 hR, rf_4_3 hR, rf_4_4 hR, rf_4_5 hR, rf_4_6 hR, rf_4_7 hR, rf_4_8 hR, rf_4_9 hR, rf_12_1 hR, rf_13_3 hR, rf_13_4 hR, rf_13_5 hR, rf_13_6 hR, rf_13_7 hR, rf_13_8 hR, rf_13_9 hR, rf_21_0 hR, rf_21_1 hR, rf_24_0 hR, rf_25_0 hR, rf_26_0 hR, rf_26_1 hR, rf_26_2 hR, rf_26_3 hR, rf_26_4 hR, rf_26_5 hR, rf_26_6 hR, rf_26_7 hR, rf_27_0 hR, rf_27_1 hR, rf_30_0 hR, rf_30_1 hR, rf_33_0 hR, rf_33_1 hR, rf_36_0 hR, rf_36_1 hR, rf_39_0 hR, rf_39_1 hR, rf_42_0 hR, rf_42_1 hR, rf_45_0 hR, rf_45_1 hR, rf_48_0 hR, rf_48_1 hR, rf_51_0 hR, rf_51_1 hR, rf_51_6 hR, rf_51_7 hR, rf_h_3 hR, rf_d_3 hR, rf_h_4 hR, rf_d_4 hR, rf_h_5 hR, rf_d_5 hR, rf_h_6 hR, rf_d_6 hR, rf_h_7 hR, rf_d_7 hR, rf_h_8 hR, rf_d_8 hR, rf_h_9 hR, rf_d_9 hR, rf_12_0 hR, rf_3_1 hR, kn_0, kn_1, kn_2, kn_3, kn_4, kn_5, kn_6, kn_7, kn_8, kn_9, kn_10, kn_11, kn_12, kn_13, kn_14, kn_15, kn_16, kn_17, kn_18, kn_19, kn_20, kn_21, kn_22, kn_23, kn_24, kn_25, kn_26, kn_27, kn_28, kn_29, kn_30, kn_31, kn_32, kn_33, kn_34, kn_35, kn_36, kn_37, kn_38, kn_39, kn_40, kn_41, kn_42, kn_43, kn_44, kn_45, kn_46, kn_47, kn_48, kn_49, kn_50, kn_51, kn_52, kn_53, kn_54, kn_55, ln_2, ln_5, ln_6, ln_7, ln_8, ln_9, ln_10, ln_11, ln_14, ln_15, ln_16, ln_17, ln_18, ln_19, ln_20, ln_22, ln_23, ln_26, ln_28, ln_29, ln_31, ln_32, ln_34, ln_35, ln_37, ln_38, ln_40, ln_41, ln_43, ln_44, ln_46, ln_47, ln_49, ln_50, ln_52, kn_h hR, lt_h hR, kn_h1 hR, ln_h1 hR, lt_h1 hR, kn_h2 hR, ln_h2 hR, lt_h2 hR, kn_h3 hR, ln_h3 hR, lt_h3 hR, kn_h4 hR, ln_h4 hR, lt_h4 hR, kn_h5 hR, ln_h5 hR, lt_h5 hR, kn_h6 hR, ln_h6 hR, lt_h6 hR, kn_h7 hR, ln_h7 hR, lt_h7 hR, kn_d hR, lt_d hR, kn_d1 hR, ln_d1 hR, lt_d1 hR, kn_d2 hR, ln_d2 hR, lt_d2 hR, kn_d3 hR, ln_d3 hR, lt_d3 hR, kn_d4 hR, ln_d4 hR, lt_d4 hR, kn_d5 hR, ln_d5 hR, lt_d5 hR, kn_d6 hR, ln_d6 hR, lt_d6 hR, kn_d7 hR, ln_d7 hR, lt_d7 hR, va_rf_some, push_s, push_n, nb0, nb1, nbb, Nat.reduceLT, hix, hcl, hp, show ((0 : Int32) < 16) = True from eq_true (by decide), if_true, show (nI 23 < 6) = False from eq_false (by decide), show (nI 23 < 22) = False from eq_false (by decide), if_false]
  rfl
theorem c_holders_loop (hR : tRef h d R) {Iw : Nat → Nat → Int32} (hW : mW Iw nr nt pl) (hP : cP I nt pl) {t : Nat} (ht : t < nt) : ∀ j i acc, i + j = 16 → (∀ k, k < i → inT (ch pl t k) = true) → (∀ b, b < 32 → bt acc b = anyb (fun k => decide (ch pl t k = 10 + b)) i) → tEv E 94 15 [.ref 12, .int (nI t), .int acc, .int (nI (cv (ch pl t i))), .int (nI i)] [] (mS I J R) Q = Q (some (so (wi pl t) 16)) (mS I J R)
  | 0, i, acc, hj, hb, ha => by
    exfalso
    obtain ⟨n, h1, h2, -⟩ := ends_15 (Nat.lt_of_lt_of_le ht hW.2.2.2.1) (hW.2.2.2.2.2 t ht)
    have := hb n (by omega)
    rw [h2] at this
    cases this
  | j + 1, i, acc, hj, hb, ha => by
    have h16 := hW.2.2.2.1
    have hc := cv_in hW ht i
    have hn : (nI i < (16 : Int32)) = True := eq_true (nI_lt (b := 16) (by omega) (by omega))
    have l6 : (nI (cv (ch pl t i)) < 6) = (cv (ch pl t i) < 6) := propext (nI_ltI (b := 6) (by omega) (by omega))
    have l22 : (nI (cv (ch pl t i)) < 22) = (cv (ch pl t i) < 22) := propext (nI_ltI (b := 22) (by omega) (by omega))
    rw [e_94_15]
    by_cases hi : inT (ch pl t i) = true
    · have hcc := hc.2.1.mpr hi
      obtain ⟨g1, g2, -⟩ := mW_in hW ht hi
      have e6 : nI (cv (ch pl t i)) - 6 = nI (ch pl t i - 10) := by
        rw [show nI (cv (ch pl t i)) - 6 = nI (cv (ch pl t i) - 6) from pk_sub (b := 6) hcc.1, hc.2.2 hi]
      have hix := inb_nI (j := ch pl t i - 10) (n := 16) (by omega) (by decide)
      have hcl := nI_cl (n := ch pl t i - 10) (by omega)
      have hp := hP (ch pl t i - 10) (by omega)
      rw [if_pos g1] at hp
      have hnx : pl (ch pl t i - 10) = ch pl t (i + 1) := by rw [ch, nx_in hi]
      rw [hnx] at hp
      have f6 : (cv (ch pl t i) < 6) = False := eq_false (by omega)
      have t22 : (cv (ch pl t i) < 22) = True := eq_true hcc.2
      simp only [e_94_0, e_94_1, e_94_2, e_94_3, e_94_6, e_94_9, e_94_10, e_94_11, e_94_12, e_94_13, e_94_17, e_94_19, e_94_22, e_94_23, e_94_25, e_94_28, e_94_29, e_94_31, e_94_34, e_94_35, e_94_36, e_94_37, e_94_39, e_94_40, e_94_41, e_94_42, e_94_43, e_94_44, e_94_47, e_94_50, e_94_51, e_94_53, e_94_54, e_94_55, e_94_56, e_94_59, e_94_62, e_94_63, rf_0_0 hR, rf_0_1 hR, rf_0_2 hR, rf_0_3 hR, rf_0_4 hR, rf_0_5 hR, rf_0_6 hR, rf_1_0 hR, rf_3_0 hR, rf_3_2 hR, rf_4_3 hR, rf_4_4 hR, rf_4_5 hR, rf_4_6 hR, rf_4_7 hR, rf_4_8 hR, rf_4_9 hR, rf_12_1 hR, rf_13_3 hR, rf_13_4 hR, rf_13_5 hR, rf_13_6 hR, rf_13_7 hR, rf_13_8 hR, rf_13_9 hR, rf_21_0 hR, rf_21_1 hR, rf_24_0 hR, rf_25_0 hR, rf_26_0 hR, rf_26_1 hR, rf_26_2 hR, rf_26_3 hR, rf_26_4 hR, rf_26_5 hR, rf_26_6 hR, rf_26_7 hR, rf_27_0 hR, rf_27_1 hR, rf_30_0 hR, rf_30_1 hR, rf_33_0 hR, rf_33_1 hR, rf_36_0 hR, rf_36_1 hR, rf_39_0 hR, rf_39_1 hR, rf_42_0 hR, rf_42_1 hR, rf_45_0 hR, rf_45_1 hR, rf_48_0 hR, rf_48_1 hR, rf_51_0 hR, rf_51_1 hR, rf_51_6 hR, rf_51_7 hR, rf_h_3 hR, rf_d_3 hR, rf_h_4 hR, rf_d_4 hR, rf_h_5 hR, rf_d_5 hR, rf_h_6 hR, rf_d_6 hR, rf_h_7 hR, rf_d_7 hR, rf_h_8 hR, rf_d_8 hR, rf_h_9 hR, rf_d_9 hR, rf_12_0 hR, rf_3_1 hR, kn_0, kn_1, kn_2, kn_3, kn_4, kn_5, kn_6, kn_7, kn_8, kn_9, kn_10, kn_11, kn_12, kn_13, kn_14, kn_15, kn_16, kn_17, kn_18, kn_19, kn_20, kn_21, kn_22, kn_23, kn_24, kn_25, kn_26, kn_27, kn_28, kn_29, kn_30, kn_31, kn_32, kn_33, kn_34, kn_35, kn_36, kn_37, kn_38, kn_39, kn_40, kn_41, kn_42, kn_43, kn_44, kn_45, kn_46, kn_47, kn_48, kn_49, kn_50, kn_51, kn_52, kn_53, kn_54, kn_55, ln_2, ln_5, ln_6, ln_7, ln_8, ln_9, ln_10, ln_11, ln_14, ln_15, ln_16, ln_17, ln_18, ln_19, ln_20, ln_22, ln_23, ln_26, ln_28, ln_29, ln_31, ln_32, ln_34, ln_35, ln_37, ln_38, ln_40, ln_41, ln_43, ln_44, ln_46, ln_47, ln_49, ln_50, ln_52, kn_h hR, lt_h hR, kn_h1 hR, ln_h1 hR, lt_h1 hR, kn_h2 hR, ln_h2 hR, lt_h2 hR, kn_h3 hR, ln_h3 hR, lt_h3 hR, kn_h4 hR, ln_h4 hR, lt_h4 hR, kn_h5 hR, ln_h5 hR, lt_h5 hR, kn_h6 hR, ln_h6 hR, lt_h6 hR, kn_h7 hR, ln_h7 hR, lt_h7 hR, kn_d hR, lt_d hR, kn_d1 hR, ln_d1 hR, lt_d1 hR, kn_d2 hR, ln_d2 hR, lt_d2 hR, kn_d3 hR, ln_d3 hR, lt_d3 hR, kn_d4 hR, ln_d4 hR, lt_d4 hR, kn_d5 hR, ln_d5 hR, lt_d5 hR, kn_d6 hR, ln_d6 hR, lt_d6 hR, kn_d7 hR, ln_d7 hR, lt_d7 hR, va_rf_some, push_s, push_n, nb0, nb1, nbb, Nat.reduceLT, hn, if_true, l6, l22, f6, t22, if_false, e6, hix, hcl, hp, nI_1]
      refine c_holders_loop hR hW hP ht j (i + 1) _ (by omega) (fun k hk => ?_) (fun b hb2 => ?_)
      · by_cases hk2 : k < i
        · exact hb k hk2
        · obtain rfl : k = i := by omega
          exact hi
      · rw [b_or, ha b hb2, b_one (show ch pl t i - 10 < 32 by omega) hb2, anyb]
        congr 1
        rw [decide_eq_decide]
        omega
    · have hf : inT (ch pl t i) = false := by simpa using hi
      have hno : ¬ (6 ≤ cv (ch pl t i) ∧ cv (ch pl t i) < 22) := fun q => hi (hc.2.1.mp q)
      have hacc : acc = so (wi pl t) 16 := by
        apply b_ext
        intro b hb2
        rw [ha b hb2, so_bt _ (by decide) b hb2]
        have hif := of_decide_eq_false hf
        cases q : anyb (fun k => decide (ch pl t k = 10 + b)) i with
        | true =>
          obtain ⟨k, hk, hk2⟩ := anyb_iff.mp q
          have e := of_decide_eq_true hk2
          have hin := of_decide_eq_true (hb k hk)
          have : i < 17 := by omega
          rw [decide_eq_true (show b < 16 by omega), Bool.true_and]
          exact (wi_iff.mpr ⟨k, by omega, e⟩).symm
        | false =>
          by_cases hb3 : b < 16
          · rw [decide_eq_true hb3, Bool.true_and]
            cases q2 : wi pl t b with
            | false => rfl
            | true =>
              obtain ⟨k, hk, e⟩ := wi_iff.mp q2
              by_cases hk2 : k < i
              · rw [anyb_iff.mpr ⟨k, hk2, decide_eq_true e⟩] at q
                cases q
              · have := ch_stop hf k (by omega)
                omega
          · rw [decide_eq_false hb3, Bool.false_and]
      by_cases c6 : cv (ch pl t i) < 6
      · simp only [e_94_0, e_94_1, e_94_2, e_94_3, e_94_6, e_94_9, e_94_10, e_94_11, e_94_12, e_94_13, e_94_17, e_94_19, e_94_22, e_94_23, e_94_25, e_94_28, e_94_29, e_94_31, e_94_34, e_94_35, e_94_36, e_94_37, e_94_39, e_94_40, e_94_41, e_94_42, e_94_43, e_94_44, e_94_47, e_94_50, e_94_51, e_94_53, e_94_54, e_94_55, e_94_56, e_94_59, e_94_62, e_94_63, rf_0_0 hR, rf_0_1 hR, rf_0_2 hR, rf_0_3 hR, rf_0_4 hR, rf_0_5 hR, rf_0_6 hR, rf_1_0 hR, rf_3_0 hR, rf_3_2 hR, rf_4_3 hR, rf_4_4 hR, rf_4_5 hR, rf_4_6 hR, rf_4_7 hR, rf_4_8 hR, rf_4_9 hR, rf_12_1 hR, rf_13_3 hR, rf_13_4 hR, rf_13_5 hR, rf_13_6 hR, rf_13_7 hR, rf_13_8 hR, rf_13_9 hR, rf_21_0 hR, rf_21_1 hR, rf_24_0 hR, rf_25_0 hR, rf_26_0 hR, rf_26_1 hR, rf_26_2 hR, rf_26_3 hR, rf_26_4 hR, rf_26_5 hR, rf_26_6 hR, rf_26_7 hR, rf_27_0 hR, rf_27_1 hR, rf_30_0 hR, rf_30_1 hR, rf_33_0 hR, rf_33_1 hR, rf_36_0 hR, rf_36_1 hR, rf_39_0 hR, rf_39_1 hR, rf_42_0 hR, rf_42_1 hR, rf_45_0 hR, rf_45_1 hR, rf_48_0 hR, rf_48_1 hR, rf_51_0 hR, rf_51_1 hR, rf_51_6 hR, rf_51_7 hR, rf_h_3 hR, rf_d_3 hR, rf_h_4 hR, rf_d_4 hR, rf_h_5 hR, rf_d_5 hR, rf_h_6 hR, rf_d_6 hR, rf_h_7 hR, rf_d_7 hR, rf_h_8 hR, rf_d_8 hR, rf_h_9 hR, rf_d_9 hR, rf_12_0 hR, rf_3_1 hR, kn_0, kn_1, kn_2, kn_3, kn_4, kn_5, kn_6, kn_7, kn_8, kn_9, kn_10, kn_11, kn_12, kn_13, kn_14, kn_15, kn_16, kn_17, kn_18, kn_19, kn_20, kn_21, kn_22, kn_23, kn_24, kn_25, kn_26, kn_27, kn_28, kn_29, kn_30, kn_31, kn_32, kn_33, kn_34, kn_35, kn_36, kn_37, kn_38, kn_39, kn_40, kn_41, kn_42, kn_43, kn_44, kn_45, kn_46, kn_47, kn_48, kn_49, kn_50, kn_51, kn_52, kn_53, kn_54, kn_55, ln_2, ln_5, ln_6, ln_7, ln_8, ln_9, ln_10, ln_11, ln_14, ln_15, ln_16, ln_17, ln_18, ln_19, ln_20, ln_22, ln_23, ln_26, ln_28, ln_29, ln_31, ln_32, ln_34, ln_35, ln_37, ln_38, ln_40, ln_41, ln_43, ln_44, ln_46, ln_47, ln_49, ln_50, ln_52, kn_h hR, lt_h hR, kn_h1 hR, ln_h1 hR, lt_h1 hR, kn_h2 hR, ln_h2 hR, lt_h2 hR, kn_h3 hR, ln_h3 hR, lt_h3 hR, kn_h4 hR, ln_h4 hR, lt_h4 hR, kn_h5 hR, ln_h5 hR, lt_h5 hR, kn_h6 hR, ln_h6 hR, lt_h6 hR, kn_h7 hR, ln_h7 hR, lt_h7 hR, kn_d hR, lt_d hR, kn_d1 hR, ln_d1 hR, lt_d1 hR, kn_d2 hR, ln_d2 hR, lt_d2 hR, kn_d3 hR, ln_d3 hR, lt_d3 hR, kn_d4 hR, ln_d4 hR, lt_d4 hR, kn_d5 hR, ln_d5 hR, lt_d5 hR, kn_d6 hR, ln_d6 hR, lt_d6 hR, kn_d7 hR, ln_d7 hR, lt_d7 hR, va_rf_some, push_s, push_n, nb0, nb1, nbb, Nat.reduceLT, hn, if_true, l6, l22, c6]
        rw [hacc]
      · have c22 : ¬ cv (ch pl t i) < 22 := by omega
        simp only [e_94_0, e_94_1, e_94_2, e_94_3, e_94_6, e_94_9, e_94_10, e_94_11, e_94_12, e_94_13, e_94_17, e_94_19, e_94_22, e_94_23, e_94_25, e_94_28, e_94_29, e_94_31, e_94_34, e_94_35, e_94_36, e_94_37, e_94_39, e_94_40, e_94_41, e_94_42, e_94_43, e_94_44, e_94_47, e_94_50, e_94_51, e_94_53, e_94_54, e_94_55, e_94_56, e_94_59, e_94_62, e_94_63, rf_0_0 hR, rf_0_1 hR, rf_0_2 hR, rf_0_3 hR, rf_0_4 hR, rf_0_5 hR, rf_0_6 hR, rf_1_0 hR, rf_3_0 hR, rf_3_2 hR, rf_4_3 hR, rf_4_4 hR, rf_4_5 hR, rf_4_6 hR, rf_4_7 hR, rf_4_8 hR, rf_4_9 hR, rf_12_1 hR, rf_13_3 hR, rf_13_4 hR, rf_13_5 hR, rf_13_6 hR, rf_13_7 hR, rf_13_8 hR, rf_13_9 hR, rf_21_0 hR, rf_21_1 hR, rf_24_0 hR, rf_25_0 hR, rf_26_0 hR, rf_26_1 hR, rf_26_2 hR, rf_26_3 hR, rf_26_4 hR, rf_26_5 hR, rf_26_6 hR, rf_26_7 hR, rf_27_0 hR, rf_27_1 hR, rf_30_0 hR, rf_30_1 hR, rf_33_0 hR, rf_33_1 hR, rf_36_0 hR, rf_36_1 hR, rf_39_0 hR, rf_39_1 hR, rf_42_0 hR, rf_42_1 hR, rf_45_0 hR, rf_45_1 hR, rf_48_0 hR, rf_48_1 hR, rf_51_0 hR, rf_51_1 hR, rf_51_6 hR, rf_51_7 hR, rf_h_3 hR, rf_d_3 hR, rf_h_4 hR, rf_d_4 hR, rf_h_5 hR, rf_d_5 hR, rf_h_6 hR, rf_d_6 hR, rf_h_7 hR, rf_d_7 hR, rf_h_8 hR, rf_d_8 hR, rf_h_9 hR, rf_d_9 hR, rf_12_0 hR, rf_3_1 hR, kn_0, kn_1, kn_2, kn_3, kn_4, kn_5, kn_6, kn_7, kn_8, kn_9, kn_10, kn_11, kn_12, kn_13, kn_14, kn_15, kn_16, kn_17, kn_18, kn_19, kn_20, kn_21, kn_22, kn_23, kn_24, kn_25, kn_26, kn_27, kn_28, kn_29, kn_30, kn_31, kn_32, kn_33, kn_34, kn_35, kn_36, kn_37, kn_38, kn_39, kn_40, kn_41, kn_42, kn_43, kn_44, kn_45, kn_46, kn_47, kn_48, kn_49, kn_50, kn_51, kn_52, kn_53, kn_54, kn_55, ln_2, ln_5, ln_6, ln_7, ln_8, ln_9, ln_10, ln_11, ln_14, ln_15, ln_16, ln_17, ln_18, ln_19, ln_20, ln_22, ln_23, ln_26, ln_28, ln_29, ln_31, ln_32, ln_34, ln_35, ln_37, ln_38, ln_40, ln_41, ln_43, ln_44, ln_46, ln_47, ln_49, ln_50, ln_52, kn_h hR, lt_h hR, kn_h1 hR, ln_h1 hR, lt_h1 hR, kn_h2 hR, ln_h2 hR, lt_h2 hR, kn_h3 hR, ln_h3 hR, lt_h3 hR, kn_h4 hR, ln_h4 hR, lt_h4 hR, kn_h5 hR, ln_h5 hR, lt_h5 hR, kn_h6 hR, ln_h6 hR, lt_h6 hR, kn_h7 hR, ln_h7 hR, lt_h7 hR, kn_d hR, lt_d hR, kn_d1 hR, ln_d1 hR, lt_d1 hR, kn_d2 hR, ln_d2 hR, lt_d2 hR, kn_d3 hR, ln_d3 hR, lt_d3 hR, kn_d4 hR, ln_d4 hR, lt_d4 hR, kn_d5 hR, ln_d5 hR, lt_d5 hR, kn_d6 hR, ln_d6 hR, lt_d6 hR, kn_d7 hR, ln_d7 hR, lt_d7 hR, va_rf_some, push_s, push_n, nb0, nb1, nbb, Nat.reduceLT, hn, if_true, l6, l22, c6, c22, if_false]
        rw [hacc]
theorem c_holders (hR : tRef h d R) {Iw : Nat → Nat → Int32} (hW : mW Iw nr nt pl) (hP : cP I nt pl) {t : Nat} (ht : t < nt) : tEv E 94 0 [.ref 12, .int (nI t), tm_dum, tm_dum, tm_dum] [] (mS I J R) Q = Q (some (so (wi pl t) 16)) (mS I J R) := by
  have h16 := hW.2.2.2.1
  have hix := inb_nI (j := t) (n := 16) (by omega) (by decide)
  have hcl := nI_cl (n := t) (by omega)
  have hp := hP t (by omega)
  rw [if_pos ht] at hp
  simp only [e_94_0, e_94_1, e_94_2, e_94_3, e_94_6, e_94_9, e_94_10, e_94_11, e_94_12, e_94_13, rf_0_0 hR, rf_0_1 hR, rf_0_2 hR, rf_0_3 hR, rf_0_4 hR, rf_0_5 hR, rf_0_6 hR, rf_1_0 hR, rf_3_0 hR, rf_3_2 hR, rf_4_3 hR, rf_4_4 hR, rf_4_5 hR, rf_4_6 hR, rf_4_7 hR, rf_4_8 hR, rf_4_9 hR, rf_12_1 hR, rf_13_3 hR, rf_13_4 hR, rf_13_5 hR, rf_13_6 hR, rf_13_7 hR, rf_13_8 hR, rf_13_9 hR, rf_21_0 hR, rf_21_1 hR, rf_24_0 hR, rf_25_0 hR, rf_26_0 hR, rf_26_1 hR, rf_26_2 hR, rf_26_3 hR, rf_26_4 hR, rf_26_5 hR, rf_26_6 hR, rf_26_7 hR, rf_27_0 hR, rf_27_1 hR, rf_30_0 hR, rf_30_1 hR, rf_33_0 hR, rf_33_1 hR, rf_36_0 hR, rf_36_1 hR, rf_39_0 hR, rf_39_1 hR, rf_42_0 hR, rf_42_1 hR, rf_45_0 hR, rf_45_1 hR, rf_48_0 hR, rf_48_1 hR, rf_51_0 hR, rf_51_1 hR, rf_51_6 hR, rf_51_7 hR, rf_h_3 hR, rf_d_3 hR, rf_h_4 hR, rf_d_4 hR, rf_h_5 hR, rf_d_5 hR, rf_h_6 hR, rf_d_6 hR, rf_h_7 hR, rf_d_7 hR, rf_h_8 hR, rf_d_8 hR, rf_h_9 hR, rf_d_9 hR, rf_12_0 hR, rf_3_1 hR, kn_0, kn_1, kn_2, kn_3, kn_4, kn_5, kn_6, kn_7, kn_8, kn_9, kn_10, kn_11, kn_12, kn_13, kn_14, kn_15, kn_16, kn_17, kn_18, kn_19, kn_20, kn_21, kn_22, kn_23, kn_24, kn_25, kn_26, kn_27, kn_28, kn_29, kn_30, kn_31, kn_32, kn_33, kn_34, kn_35, kn_36, kn_37, kn_38, kn_39, kn_40, kn_41, kn_42, kn_43, kn_44, kn_45, kn_46, kn_47, kn_48, kn_49, kn_50, kn_51, kn_52, kn_53, kn_54, kn_55, ln_2, ln_5, ln_6, ln_7, ln_8, ln_9, ln_10, ln_11, ln_14, ln_15, ln_16, ln_17, ln_18, ln_19, ln_20, ln_22, ln_23, ln_26, ln_28, ln_29, ln_31, ln_32, ln_34, ln_35, ln_37, ln_38, ln_40, ln_41, ln_43, ln_44, ln_46, ln_47, ln_49, ln_50, ln_52, kn_h hR, lt_h hR, kn_h1 hR, ln_h1 hR, lt_h1 hR, kn_h2 hR, ln_h2 hR, lt_h2 hR, kn_h3 hR, ln_h3 hR, lt_h3 hR, kn_h4 hR, ln_h4 hR, lt_h4 hR, kn_h5 hR, ln_h5 hR, lt_h5 hR, kn_h6 hR, ln_h6 hR, lt_h6 hR, kn_h7 hR, ln_h7 hR, lt_h7 hR, kn_d hR, lt_d hR, kn_d1 hR, ln_d1 hR, lt_d1 hR, kn_d2 hR, ln_d2 hR, lt_d2 hR, kn_d3 hR, ln_d3 hR, lt_d3 hR, kn_d4 hR, ln_d4 hR, lt_d4 hR, kn_d5 hR, ln_d5 hR, lt_d5 hR, kn_d6 hR, ln_d6 hR, lt_d6 hR, kn_d7 hR, ln_d7 hR, lt_d7 hR, va_rf_some, push_s, push_n, nb0, nb1, nbb, Nat.reduceLT, hix, hcl, hp]
  exact c_holders_loop hR hW hP ht 16 0 0 (by omega) (fun k hk => by omega) (fun b hb => by rw [b_0]; rfl)
theorem c_holders_no (hR : tRef h d R) (hP : cP I nt pl) {t : Nat} (ht : nt ≤ t) (h16 : t < 16) : tEv E 94 0 [.ref 12, .int (nI t), tm_dum, tm_dum, tm_dum] [] (mS I J R) Q = Q (some 0) (mS I J R) := by
  have hix := inb_nI (j := t) (n := 16) (by omega) (by decide)
  have hcl := nI_cl (n := t) (by omega)
  have hp := hP t h16
  rw [if_neg (by omega)] at hp
  simp only [e_94_0, e_94_1, e_94_2, e_94_3, e_94_6, e_94_9, e_94_10, e_94_11, e_94_12, e_94_13, e_94_15, e_94_17, e_94_19, e_94_22, e_94_23, e_94_25, e_94_28, e_94_29, e_94_31, e_94_34, e_94_35, e_94_36, e_94_37, e_94_39, e_94_40, e_94_41, e_94_42, e_94_43, e_94_44, e_94_47, e_94_50, e_94_51, e_94_53, e_94_54, e_94_55, e_94_56, e_94_59, e_94_62, e_94_63, rf_0_0 hR, rf_0_1 hR, rf_0_2 hR, rf_0_3 hR, rf_0_4 hR, rf_0_5 hR, rf_0_6 hR, rf_1_0 hR, rf_3_0 hR, rf_3_2 hR, rf_4_3 hR, rf_4_4 hR, rf_4_5 hR, rf_4_6 hR, rf_4_7 hR, rf_4_8 hR, rf_4_9 hR, rf_12_1 hR, rf_13_3 hR, rf_13_4 hR, rf_13_5 hR, rf_13_6 hR, rf_13_7 hR, rf_13_8 hR, rf_13_9 hR, rf_21_0 hR, rf_21_1 hR, rf_24_0 hR, rf_25_0 hR, rf_26_0 hR, rf_26_1 hR, rf_26_2 hR, rf_26_3 hR, rf_26_4 hR, rf_26_5 hR, rf_26_6 hR, rf_26_7 hR, rf_27_0 hR, rf_27_1 hR, rf_30_0 hR, rf_30_1 hR, rf_33_0 hR, rf_33_1 hR, rf_36_0 hR, rf_36_1 hR, rf_39_0 hR, rf_39_1 hR, rf_42_0 hR, rf_42_1 hR, rf_45_0 hR, rf_45_1 hR, rf_48_0 hR, rf_48_1 hR, rf_51_0 hR, rf_51_1 hR, rf_51_6 hR, rf_51_7 hR, rf_h_3 hR, rf_d_3 hR, rf_h_4 hR, rf_d_4 hR, rf_h_5 hR, rf_d_5 hR, rf_h_6 hR, rf_d_6 hR, rf_h_7 hR, rf_d_7 hR, rf_h_8 hR, rf_d_8 hR, rf_h_9 hR, rf_d_9 hR, rf_12_0 hR, rf_3_1 hR, kn_0, kn_1, kn_2, kn_3, kn_4, kn_5, kn_6, kn_7, kn_8, kn_9, kn_10, kn_11, kn_12, kn_13, kn_14, kn_15, kn_16, kn_17, kn_18, kn_19, kn_20, kn_21, kn_22, kn_23, kn_24, kn_25, kn_26, kn_27, kn_28, kn_29, kn_30, kn_31, kn_32, kn_33, kn_34, kn_35, kn_36, kn_37, kn_38, kn_39, kn_40, kn_41, kn_42, kn_43, kn_44, kn_45, kn_46, kn_47, kn_48, kn_49, kn_50, kn_51, kn_52, kn_53, kn_54, kn_55, ln_2, ln_5, ln_6, ln_7, ln_8, ln_9, ln_10, ln_11, ln_14, ln_15, ln_16, ln_17, ln_18, ln_19, ln_20, ln_22, ln_23, ln_26, ln_28, ln_29, ln_31, ln_32, ln_34, ln_35, ln_37, ln_38, ln_40, ln_41, ln_43, ln_44, ln_46, ln_47, ln_49, ln_50, ln_52, kn_h hR, lt_h hR, kn_h1 hR, ln_h1 hR, lt_h1 hR, kn_h2 hR, ln_h2 hR, lt_h2 hR, kn_h3 hR, ln_h3 hR, lt_h3 hR, kn_h4 hR, ln_h4 hR, lt_h4 hR, kn_h5 hR, ln_h5 hR, lt_h5 hR, kn_h6 hR, ln_h6 hR, lt_h6 hR, kn_h7 hR, ln_h7 hR, lt_h7 hR, kn_d hR, lt_d hR, kn_d1 hR, ln_d1 hR, lt_d1 hR, kn_d2 hR, ln_d2 hR, lt_d2 hR, kn_d3 hR, ln_d3 hR, lt_d3 hR, kn_d4 hR, ln_d4 hR, lt_d4 hR, kn_d5 hR, ln_d5 hR, lt_d5 hR, kn_d6 hR, ln_d6 hR, lt_d6 hR, kn_d7 hR, ln_d7 hR, lt_d7 hR, va_rf_some, push_s, push_n, nb0, nb1, nbb, Nat.reduceLT, hix, hcl, hp, show ((0 : Int32) < 16) = True from eq_true (by decide), if_true, show (nI 23 < 6) = False from eq_false (by decide), show (nI 23 < 22) = False from eq_false (by decide), if_false]
end C2
