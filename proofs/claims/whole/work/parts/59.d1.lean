/-! ===== the class: what is out ===== -/
/-- the bits of a set in the class -/
def cB (I : Nat → Nat → Int32) (c f nt : Nat) (q : Nat → Bool) : Prop := ∀ t, t < 32 → bt (I c f) t = (decide (t < nt) && q t)
section D1
variable {E : tm_Env} {Q : Option Int32 → tm_St → Prop} {I : Nat → Nat → Int32} {J : Nat → Nat → Int64} {R : Nat → Nat → Option Nat} {h d : Nat} {nr nt y : Nat} {pl : Nat → Nat}
theorem cv_room {I : Nat → Nat → Int32} {nr nt : Nat} {pl : Nat → Nat} (hW : mW I nr nt pl) {t : Nat} (ht : t < nt) {r : Nat} (hr : r < 6) : (cv (fin pl t) = r) = (fin pl t = r) := by
  have h16 := hW.2.2.2.1
  have h6 := hW.2.2.1
  have hm := mW_ch hW ht 15
  have hf := fin_out (Nat.lt_of_lt_of_le ht h16) (hW.2.2.2.2.2 t ht)
  have hf2 := of_decide_eq_false hf
  apply propext
  unfold fin at hf2 ⊢
  unfold cv
  split
  · exact Iff.rfl
  · split <;> omega
/-- the boxes that are shut -/
def cshut (I : Nat → Nat → Int32) (h : Nat) : Int32 := (I h 10 &&& I h 12) &&& (I 21 2 ^^^ (-1))
theorem cshut_bt (h10 : cB I h 10 nt (fun t => mtr I t 1)) (h12 : cB I h 12 nt (fun t => mtr I t 4)) (h2 : cB I 21 2 nt (fun t => mst I t 1)) {t : Nat} (ht : t < 32) : bt (cshut I h) t = (decide (t < nt) && mshut I t) := by
  unfold cshut
  rw [b_and, b_and, b_xor, b_m1 t ht, h10 t ht, h12 t ht, h2 t ht]
  unfold mshut mcl mtr mst
  by_cases c : t < nt
  · rw [decide_eq_true c]
    by_cases c1 : I 62 t &&& 1 = 0 <;> by_cases c2 : I 62 t &&& 4 = 0 <;> by_cases c3 : I 57 (16 + t) &&& 1 = 0 <;> simp [c1, c2, c3]
  · rw [decide_eq_false c]
    rfl
theorem hid_and (hW : mW I nr nt pl) {s : Int32} {sh : Nat → Bool} (hs : ∀ t, t < 32 → bt s t = (decide (t < nt) && sh t)) {t : Nat} (ht : t < nt) : (so (wi pl t) 16 &&& s = 0) = (hid pl sh t = false) := by
  have h16 := hW.2.2.2.1
  apply propext
  constructor
  · intro e
    cases c : hid pl sh t with
    | false => rfl
    | true =>
      obtain ⟨i, hi, h1, h2⟩ := hid_iff.mp c
      obtain ⟨g1, g2, -⟩ := mW_in hW ht h1
      have hb : bt (so (wi pl t) 16 &&& s) (ch pl t i - 10) = true := by
        rw [b_and, so_bt _ (by decide) _ (by omega), hs _ (by omega), h2, decide_eq_true g1, decide_eq_true (show ch pl t i - 10 < 16 by omega), wi_iff.mpr ⟨i, hi, by omega⟩]
        rfl
      rw [e, b_0] at hb
      cases hb
  · intro e
    apply b_ext
    intro b hb
    rw [b_0, b_and, so_bt _ (by decide) b hb, hs b hb]
    cases c : wi pl t b with
    | false => rw [Bool.and_false, Bool.false_and]
    | true =>
      by_cases cb : b < nt
      · obtain ⟨i, hi, e2⟩ := wi_iff.mp c
        cases c2 : sh b with
        | false => rw [Bool.and_false, Bool.and_false]
        | true =>
          have : hid pl sh t = true := hid_iff.mpr ⟨i, hi, by unfold inT; rw [e2]; exact decide_eq_true (by omega), by rw [e2, show 10 + b - 10 = b by omega]; exact c2⟩
          rw [e] at this
          cases this
      · rw [decide_eq_false cb, Bool.false_and, Bool.and_false]
theorem c_outIn_loop (hR : tRef h d R) (hW : mW I nr nt pl) (hP : cP I nt pl) {yv : Nat} (hyr : yv < 6) (hy : I 21 5 = nI yv) {r : Nat} (hr : r < 6) {s : Int32} {sh : Nat → Bool} (hs : ∀ t, t < 32 → bt s t = (decide (t < nt) && sh t)) : ∀ j i acc l5 l6, i + j = 16 → acc = so (fun t => decide (t < nt) && outb pl sh yv r t) i → tEv E 120 31 [.ref 12, .int (nI r), .int s, .int acc, .int (nI i), l5, l6] [] (mS I J R) Q = Q (some (so (outb pl sh yv r) nt)) (mS I J R)
  | 0, i, acc, l5, l6, hj, ha => by
    have h16 := hW.2.2.2.1
    obtain rfl : i = 16 := by omega
    have hn : (nI 16 < (16 : Int32)) = False := eq_false (by decide)
    rw [e_120_31]
    simp only [e_120_33, e_120_35, e_120_38, e_120_39, e_120_41, e_120_44, e_120_46, e_120_48, e_120_49, e_120_52, e_120_54, e_120_56, e_120_59, e_120_60, e_120_63, e_120_66, e_120_67, e_120_70, e_120_71, e_120_74, e_120_75, e_120_77, e_120_79, e_120_82, e_120_83, e_120_85, e_120_88, e_120_89, e_120_90, e_120_93, e_120_94, e_120_95, e_120_97, e_120_98, e_120_99, e_120_100, e_120_103, e_120_106, e_120_107, hn, if_false]
    rw [ha, so_cut h16]
  | j + 1, i, acc, l5, l6, hj, ha => by
    have h16 := hW.2.2.2.1
    have h6 := hW.2.2.1
    have hn : (nI i < (16 : Int32)) = True := eq_true (nI_lt (b := 16) (by omega) (by omega))
    have ih := fun acc' l5' l6' e => c_outIn_loop hR hW hP hyr hy hr hs j (i + 1) acc' l5' l6' (by omega) e
    rw [e_120_31]
    by_cases c : i < nt
    · have hcv := cv_in hW c 15
      have lf : cv (fin pl i) < 23 := hcv.1
      have e1 : (nI (cv (fin pl i)) = nI r) = (fin pl i = r) := (propext (nI_eq (by omega) (by omega))).trans (cv_room hW c hr)
      have e2 : (nI (cv (fin pl i)) = 22) = (fin pl i = 30) := (propext (nI_eq (b := 22) (by omega) (by omega))).trans (cv_30 hW c 15)
      have e3 : (nI yv = nI r) = (yv = r) := propext (nI_eq (by omega) (by omega))
      have hh := hid_and hW hs c
      have out : outb pl sh yv r i = (!hid pl sh i && (fin pl i == r || (fin pl i == 30 && yv == r))) := rfl
      have no : ∀ l5' l6', outb pl sh yv r i = false → tEv E 120 31 [.ref 12, .int (nI r), .int s, .int acc, .int (nI (i + 1)), l5', l6'] [] (mS I J R) Q = Q (some (so (outb pl sh yv r) nt)) (mS I J R) := fun l5' l6' q => ih _ _ _ (by rw [so, ha, if_neg (by rw [q, Bool.and_false]; decide), Int32.or_zero])
      have yes : ∀ l5' l6', outb pl sh yv r i = true → tEv E 120 31 [.ref 12, .int (nI r), .int s, .int (acc ||| (1 <<< (nI i &&& 31))), .int (nI (i + 1)), l5', l6'] [] (mS I J R) Q = Q (some (so (outb pl sh yv r) nt)) (mS I J R) := fun l5' l6' q => ih _ _ _ (by rw [so, ha, if_pos (by rw [q, decide_eq_true c]; rfl)])
      simp only [e_120_33, e_120_35, e_120_38, e_120_39, e_120_41, e_120_44, e_120_46, e_120_48, e_120_49, e_120_52, e_120_54, e_120_56, e_120_59, e_120_60, e_120_63, e_120_66, e_120_67, e_120_70, e_120_71, e_120_74, e_120_75, e_120_77, e_120_79, e_120_82, e_120_83, e_120_85, e_120_88, e_120_89, e_120_90, e_120_93, e_120_94, e_120_95, e_120_97, e_120_98, e_120_99, e_120_100, e_120_103, rf_0_0 hR, rf_0_1 hR, rf_0_2 hR, rf_0_3 hR, rf_0_4 hR, rf_0_5 hR, rf_0_6 hR, rf_1_0 hR, rf_3_0 hR, rf_3_2 hR, rf_4_3 hR, rf_4_4 hR, rf_4_5 hR, rf_4_6 hR, rf_4_7 hR, rf_4_8 hR, rf_4_9 hR, rf_12_1 hR, rf_13_3 hR, rf_13_4 hR, rf_13_5 hR, rf_13_6 hR, rf_13_7 hR, rf_13_8 hR, rf_13_9 hR, rf_21_0 hR, rf_21_1 hR, rf_24_0 hR, rf_25_0 hR, rf_26_0 hR, rf_26_1 hR, rf_26_2 hR, rf_26_3 hR, rf_26_4 hR, rf_26_5 hR, rf_26_6 hR, rf_26_7 hR, rf_27_0 hR, rf_27_1 hR, rf_30_0 hR, rf_30_1 hR, rf_33_0 hR, rf_33_1 hR, rf_36_0 hR, rf_36_1 hR, rf_39_0 hR, rf_39_1 hR, rf_42_0 hR, rf_42_1 hR, rf_45_0 hR, rf_45_1 hR, rf_48_0 hR, rf_48_1 hR, rf_51_0 hR, rf_51_1 hR, rf_51_6 hR, rf_51_7 hR, rf_h_3 hR, rf_d_3 hR, rf_h_4 hR, rf_d_4 hR, rf_h_5 hR, rf_d_5 hR, rf_h_6 hR, rf_d_6 hR, rf_h_7 hR, rf_d_7 hR, rf_h_8 hR, rf_d_8 hR, rf_h_9 hR, rf_d_9 hR, rf_12_0 hR, rf_3_1 hR, kn_0, kn_1, kn_2, kn_3, kn_4, kn_5, kn_6, kn_7, kn_8, kn_9, kn_10, kn_11, kn_12, kn_13, kn_14, kn_15, kn_16, kn_17, kn_18, kn_19, kn_20, kn_21, kn_22, kn_23, kn_24, kn_25, kn_26, kn_27, kn_28, kn_29, kn_30, kn_31, kn_32, kn_33, kn_34, kn_35, kn_36, kn_37, kn_38, kn_39, kn_40, kn_41, kn_42, kn_43, kn_44, kn_45, kn_46, kn_47, kn_48, kn_49, kn_50, kn_51, kn_52, kn_53, kn_54, kn_55, ln_2, ln_5, ln_6, ln_7, ln_8, ln_9, ln_10, ln_11, ln_14, ln_15, ln_16, ln_17, ln_18, ln_19, ln_20, ln_22, ln_23, ln_26, ln_28, ln_29, ln_31, ln_32, ln_34, ln_35, ln_37, ln_38, ln_40, ln_41, ln_43, ln_44, ln_46, ln_47, ln_49, ln_50, ln_52, kn_h hR, lt_h hR, kn_h1 hR, ln_h1 hR, lt_h1 hR, kn_h2 hR, ln_h2 hR, lt_h2 hR, kn_h3 hR, ln_h3 hR, lt_h3 hR, kn_h4 hR, ln_h4 hR, lt_h4 hR, kn_h5 hR, ln_h5 hR, lt_h5 hR, kn_h6 hR, ln_h6 hR, lt_h6 hR, kn_h7 hR, ln_h7 hR, lt_h7 hR, kn_d hR, lt_d hR, kn_d1 hR, ln_d1 hR, lt_d1 hR, kn_d2 hR, ln_d2 hR, lt_d2 hR, kn_d3 hR, ln_d3 hR, lt_d3 hR, kn_d4 hR, ln_d4 hR, lt_d4 hR, kn_d5 hR, ln_d5 hR, lt_d5 hR, kn_d6 hR, ln_d6 hR, lt_d6 hR, kn_d7 hR, ln_d7 hR, lt_d7 hR, va_rf_some, push_s, push_n, nb0, nb1, nbb, Nat.reduceLT, hn, if_true, c_comesTo hR hW hP c, e1, e2, hy, e3, c_holders hR hW hP c, hh, nI_1, show ((1 : Int32) = 0) = False from eq_false (by decide), if_false]
      cases h4 : hid pl sh i with
      | true =>
        have q : outb pl sh yv r i = false := by rw [out, h4]; rfl
        by_cases d1 : fin pl i = r
        · rw [if_pos d1, if_neg (by decide)]
          exact no _ _ q
        · by_cases d2 : fin pl i = 30
          · by_cases d3 : yv = r
            · rw [if_neg d1, if_pos d2, if_pos d3, if_neg (by decide)]
              exact no _ _ q
            · rw [if_neg d1, if_pos d2, if_neg d3]
              exact no _ _ q
          · rw [if_neg d1, if_neg d2]
            exact no _ _ q
      | false =>
        by_cases d1 : fin pl i = r
        · have q : outb pl sh yv r i = true := by rw [out, h4]; simp [d1]
          rw [if_pos d1, if_pos rfl]
          exact yes _ _ q
        · by_cases d2 : fin pl i = 30
          · by_cases d3 : yv = r
            · have q : outb pl sh yv r i = true := by rw [out, h4]; simp [d2, d3]
              rw [if_neg d1, if_pos d2, if_pos d3, if_pos rfl]
              exact yes _ _ q
            · have q : outb pl sh yv r i = false := by rw [out, h4]; simp [d1, d3]
              rw [if_neg d1, if_pos d2, if_neg d3]
              exact no _ _ q
          · have q : outb pl sh yv r i = false := by rw [out, h4]; simp [d1, d2]
            rw [if_neg d1, if_neg d2]
            exact no _ _ q
    · simp only [e_120_33, e_120_35, e_120_38, e_120_39, e_120_41, e_120_44, e_120_46, e_120_48, e_120_49, e_120_52, e_120_54, e_120_56, e_120_59, e_120_60, e_120_63, e_120_66, e_120_67, e_120_70, e_120_71, e_120_74, e_120_75, e_120_77, e_120_79, e_120_82, e_120_83, e_120_85, e_120_88, e_120_89, e_120_90, e_120_93, e_120_94, e_120_95, e_120_97, e_120_98, e_120_99, e_120_100, e_120_103, rf_0_0 hR, rf_0_1 hR, rf_0_2 hR, rf_0_3 hR, rf_0_4 hR, rf_0_5 hR, rf_0_6 hR, rf_1_0 hR, rf_3_0 hR, rf_3_2 hR, rf_4_3 hR, rf_4_4 hR, rf_4_5 hR, rf_4_6 hR, rf_4_7 hR, rf_4_8 hR, rf_4_9 hR, rf_12_1 hR, rf_13_3 hR, rf_13_4 hR, rf_13_5 hR, rf_13_6 hR, rf_13_7 hR, rf_13_8 hR, rf_13_9 hR, rf_21_0 hR, rf_21_1 hR, rf_24_0 hR, rf_25_0 hR, rf_26_0 hR, rf_26_1 hR, rf_26_2 hR, rf_26_3 hR, rf_26_4 hR, rf_26_5 hR, rf_26_6 hR, rf_26_7 hR, rf_27_0 hR, rf_27_1 hR, rf_30_0 hR, rf_30_1 hR, rf_33_0 hR, rf_33_1 hR, rf_36_0 hR, rf_36_1 hR, rf_39_0 hR, rf_39_1 hR, rf_42_0 hR, rf_42_1 hR, rf_45_0 hR, rf_45_1 hR, rf_48_0 hR, rf_48_1 hR, rf_51_0 hR, rf_51_1 hR, rf_51_6 hR, rf_51_7 hR, rf_h_3 hR, rf_d_3 hR, rf_h_4 hR, rf_d_4 hR, rf_h_5 hR, rf_d_5 hR, rf_h_6 hR, rf_d_6 hR, rf_h_7 hR, rf_d_7 hR, rf_h_8 hR, rf_d_8 hR, rf_h_9 hR, rf_d_9 hR, rf_12_0 hR, rf_3_1 hR, kn_0, kn_1, kn_2, kn_3, kn_4, kn_5, kn_6, kn_7, kn_8, kn_9, kn_10, kn_11, kn_12, kn_13, kn_14, kn_15, kn_16, kn_17, kn_18, kn_19, kn_20, kn_21, kn_22, kn_23, kn_24, kn_25, kn_26, kn_27, kn_28, kn_29, kn_30, kn_31, kn_32, kn_33, kn_34, kn_35, kn_36, kn_37, kn_38, kn_39, kn_40, kn_41, kn_42, kn_43, kn_44, kn_45, kn_46, kn_47, kn_48, kn_49, kn_50, kn_51, kn_52, kn_53, kn_54, kn_55, ln_2, ln_5, ln_6, ln_7, ln_8, ln_9, ln_10, ln_11, ln_14, ln_15, ln_16, ln_17, ln_18, ln_19, ln_20, ln_22, ln_23, ln_26, ln_28, ln_29, ln_31, ln_32, ln_34, ln_35, ln_37, ln_38, ln_40, ln_41, ln_43, ln_44, ln_46, ln_47, ln_49, ln_50, ln_52, kn_h hR, lt_h hR, kn_h1 hR, ln_h1 hR, lt_h1 hR, kn_h2 hR, ln_h2 hR, lt_h2 hR, kn_h3 hR, ln_h3 hR, lt_h3 hR, kn_h4 hR, ln_h4 hR, lt_h4 hR, kn_h5 hR, ln_h5 hR, lt_h5 hR, kn_h6 hR, ln_h6 hR, lt_h6 hR, kn_h7 hR, ln_h7 hR, lt_h7 hR, kn_d hR, lt_d hR, kn_d1 hR, ln_d1 hR, lt_d1 hR, kn_d2 hR, ln_d2 hR, lt_d2 hR, kn_d3 hR, ln_d3 hR, lt_d3 hR, kn_d4 hR, ln_d4 hR, lt_d4 hR, kn_d5 hR, ln_d5 hR, lt_d5 hR, kn_d6 hR, ln_d6 hR, lt_d6 hR, kn_d7 hR, ln_d7 hR, lt_d7 hR, va_rf_some, push_s, push_n, nb0, nb1, nbb, Nat.reduceLT, hn, if_true, c_comesTo_no hR hP (show nt ≤ i by omega) (show i < 16 by omega), show ((23 : Int32) = 22) = False from eq_false (by decide), show ((23 : Int32) = nI r) = False from eq_false (fun e => by have := (nI_eq (a := 23) (by omega) (by omega)).mp e; omega), if_false, nI_1]
      exact ih _ _ _ (by rw [so, ha, if_neg (by simp [c]), Int32.or_zero])
end D1
