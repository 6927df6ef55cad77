/-! ===== the class: sets of things ===== -/
section C3
variable {E : tm_Env} {Q : Option Int32 → tm_St → Prop} {I : Nat → Nat → Int32} {J : Nat → Nat → Int64} {R : Nat → Nat → Option Nat} {h d : Nat} {nr nt y : Nat} {pl : Nat → Nat}
theorem so_cut {p : Nat → Bool} {n : Nat} (hn : n ≤ 16) : so (fun t => decide (t < n) && p t) 16 = so p n := by
  rw [so_more (n := n) hn (fun i h1 _ => by rw [decide_eq_false (by omega), Bool.false_and])]
  exact so_cong (fun i hi => by rw [decide_eq_true hi, Bool.true_and])
theorem c_placedAt_loop (hR : tRef h d R) (h16 : nt ≤ 16) (hP : cP I nt pl) {q : Nat} (hq : q < 23) (hv : ∀ t, t < nt → cv (pl t) < 23) : ∀ j i acc, i + j = 16 → acc = so (fun t => decide (t < nt) && (cv (pl t) == q)) i → tEv E 115 4 [.ref 12, .int (nI q), .int acc, .int (nI i)] [] (mS I J R) Q = Q (some (so (fun t => cv (pl t) == q) nt)) (mS I J R)
  | 0, i, acc, hj, ha => by
    obtain rfl : i = 16 := by omega
    have hn : (nI 16 < (16 : Int32)) = False := eq_false (by decide)
    rw [e_115_4]
    simp only [e_115_0, e_115_1, e_115_2, e_115_3, e_115_5, e_115_7, e_115_10, e_115_11, e_115_14, e_115_17, e_115_18, e_115_19, e_115_20, e_115_23, e_115_24, e_115_25, e_115_26, e_115_27, e_115_28, e_115_29, e_115_32, e_115_35, e_115_36, hn, if_false]
    rw [ha, so_cut h16]
  | j + 1, i, acc, hj, ha => by
    have hn : (nI i < (16 : Int32)) = True := eq_true (nI_lt (b := 16) (by omega) (by omega))
    have hix := inb_nI (j := i) (n := 16) (by omega) (by decide)
    have hcl := nI_cl (n := i) (by omega)
    have hp := hP i (by omega)
    have ih := fun acc' e => c_placedAt_loop hR h16 hP hq hv j (i + 1) acc' (by omega) e
    rw [e_115_4]
    by_cases c : i < nt
    · rw [if_pos c] at hp
      have e : (nI (cv (pl i)) = nI q) = (cv (pl i) = q) := propext (nI_eq (by have := hv i c; omega) (by omega))
      simp only [e_115_0, e_115_1, e_115_2, e_115_3, e_115_5, e_115_7, e_115_10, e_115_11, e_115_14, e_115_17, e_115_18, e_115_19, e_115_20, e_115_23, e_115_24, e_115_25, e_115_26, e_115_27, e_115_28, e_115_29, e_115_32, e_115_35, e_115_36, rf_0_0 hR, rf_0_1 hR, rf_0_2 hR, rf_0_3 hR, rf_0_4 hR, rf_0_5 hR, rf_0_6 hR, rf_1_0 hR, rf_3_0 hR, rf_3_2 hR, rf_4_3 hR, rf_4_4 hR, rf_4_5 hR, rf_4_6 hR, rf_4_7 hR, rf_4_8 hR, rf_4_9 hR, rf_12_1 hR, rf_13_3 hR, rf_13_4 hR, rf_13_5 hR, rf_13_6 hR, rf_13_7 hR, rf_13_8 hR, rf_13_9 hR, rf_21_0 hR, rf_21_1 hR, rf_24_0 hR, rf_25_0 hR, rf_26_0 hR, rf_26_1 hR, rf_26_2 hR, rf_26_3 hR, rf_26_4 hR, rf_26_5 hR, rf_26_6 hR, rf_26_7 hR, rf_27_0 hR, rf_27_1 hR, rf_30_0 hR, rf_30_1 hR, rf_33_0 hR, rf_33_1 hR, rf_36_0 hR, rf_36_1 hR, rf_39_0 hR, rf_39_1 hR, rf_42_0 hR, rf_42_1 hR, rf_45_0 hR, rf_45_1 hR, rf_48_0 hR, rf_48_1 hR, rf_51_0 hR, rf_51_1 hR, rf_51_6 hR, rf_51_7 hR, rf_h_3 hR, rf_d_3 hR, rf_h_4 hR, rf_d_4 hR, rf_h_5 hR, rf_d_5 hR, rf_h_6 hR, rf_d_6 hR, rf_h_7 hR, rf_d_7 hR, rf_h_8 hR, rf_d_8 hR, rf_h_9 hR, rf_d_9 hR, rf_12_0 hR, rf_3_1 hR, kn_0, kn_1, kn_2, kn_3, kn_4, kn_5, kn_6, kn_7, kn_8, kn_9, kn_10, kn_11, kn_12, kn_13, kn_14, kn_15, kn_16, kn_17, kn_18, kn_19, kn_20, kn_21, kn_22, kn_23, kn_24, kn_25, kn_26, kn_27, kn_28, kn_29, kn_30, kn_31, kn_32, kn_33, kn_34, kn_35, kn_36, kn_37, kn_38, kn_39, kn_40, kn_41, kn_42, kn_43, kn_44, kn_45, kn_46, kn_47, kn_48, kn_49, kn_50, kn_51, kn_52, kn_53, kn_54, kn_55, ln_2, ln_5, ln_6, ln_7, ln_8, ln_9, ln_10, ln_11, ln_14, ln_15, ln_16, ln_17, ln_18, ln_19, ln_20, ln_22, ln_23, ln_26, ln_28, ln_29, ln_31, ln_32, ln_34, ln_35, ln_37, ln_38, ln_40, ln_41, ln_43, ln_44, ln_46, ln_47, ln_49, ln_50, ln_52, kn_h hR, lt_h hR, kn_h1 hR, ln_h1 hR, lt_h1 hR, kn_h2 hR, ln_h2 hR, lt_h2 hR, kn_h3 hR, ln_h3 hR, lt_h3 hR, kn_h4 hR, ln_h4 hR, lt_h4 hR, kn_h5 hR, ln_h5 hR, lt_h5 hR, kn_h6 hR, ln_h6 hR, lt_h6 hR, kn_h7 hR, ln_h7 hR, lt_h7 hR, kn_d hR, lt_d hR, kn_d1 hR, ln_d1 hR, lt_d1 hR, kn_d2 hR, ln_d2 hR, lt_d2 hR, kn_d3 hR, ln_d3 hR, lt_d3 hR, kn_d4 hR, ln_d4 hR, lt_d4 hR, kn_d5 hR, ln_d5 hR, lt_d5 hR, kn_d6 hR, ln_d6 hR, lt_d6 hR, kn_d7 hR, ln_d7 hR, lt_d7 hR, va_rf_some, push_s, push_n, nb0, nb1, nbb, Nat.reduceLT, hn, if_true, hix, hcl, hp, e, nI_1]
      by_cases c2 : cv (pl i) = q
      · rw [if_pos c2]
        exact ih _ (by rw [so, ha, if_pos (by simp [c, c2])])
      · rw [if_neg c2]
        exact ih _ (by rw [so, ha, if_neg (by simp [c2]), Int32.or_zero])
    · rw [if_neg c] at hp
      have e : (nI 23 = nI q) = False := eq_false (fun e => by have := (nI_eq (by omega) (by omega)).mp e; omega)
      simp only [e_115_0, e_115_1, e_115_2, e_115_3, e_115_5, e_115_7, e_115_10, e_115_11, e_115_14, e_115_17, e_115_18, e_115_19, e_115_20, e_115_23, e_115_24, e_115_25, e_115_26, e_115_27, e_115_28, e_115_29, e_115_32, e_115_35, e_115_36, rf_0_0 hR, rf_0_1 hR, rf_0_2 hR, rf_0_3 hR, rf_0_4 hR, rf_0_5 hR, rf_0_6 hR, rf_1_0 hR, rf_3_0 hR, rf_3_2 hR, rf_4_3 hR, rf_4_4 hR, rf_4_5 hR, rf_4_6 hR, rf_4_7 hR, rf_4_8 hR, rf_4_9 hR, rf_12_1 hR, rf_13_3 hR, rf_13_4 hR, rf_13_5 hR, rf_13_6 hR, rf_13_7 hR, rf_13_8 hR, rf_13_9 hR, rf_21_0 hR, rf_21_1 hR, rf_24_0 hR, rf_25_0 hR, rf_26_0 hR, rf_26_1 hR, rf_26_2 hR, rf_26_3 hR, rf_26_4 hR, rf_26_5 hR, rf_26_6 hR, rf_26_7 hR, rf_27_0 hR, rf_27_1 hR, rf_30_0 hR, rf_30_1 hR, rf_33_0 hR, rf_33_1 hR, rf_36_0 hR, rf_36_1 hR, rf_39_0 hR, rf_39_1 hR, rf_42_0 hR, rf_42_1 hR, rf_45_0 hR, rf_45_1 hR, rf_48_0 hR, rf_48_1 hR, rf_51_0 hR, rf_51_1 hR, rf_51_6 hR, rf_51_7 hR, rf_h_3 hR, rf_d_3 hR, rf_h_4 hR, rf_d_4 hR, rf_h_5 hR, rf_d_5 hR, rf_h_6 hR, rf_d_6 hR, rf_h_7 hR, rf_d_7 hR, rf_h_8 hR, rf_d_8 hR, rf_h_9 hR, rf_d_9 hR, rf_12_0 hR, rf_3_1 hR, kn_0, kn_1, kn_2, kn_3, kn_4, kn_5, kn_6, kn_7, kn_8, kn_9, kn_10, kn_11, kn_12, kn_13, kn_14, kn_15, kn_16, kn_17, kn_18, kn_19, kn_20, kn_21, kn_22, kn_23, kn_24, kn_25, kn_26, kn_27, kn_28, kn_29, kn_30, kn_31, kn_32, kn_33, kn_34, kn_35, kn_36, kn_37, kn_38, kn_39, kn_40, kn_41, kn_42, kn_43, kn_44, kn_45, kn_46, kn_47, kn_48, kn_49, kn_50, kn_51, kn_52, kn_53, kn_54, kn_55, ln_2, ln_5, ln_6, ln_7, ln_8, ln_9, ln_10, ln_11, ln_14, ln_15, ln_16, ln_17, ln_18, ln_19, ln_20, ln_22, ln_23, ln_26, ln_28, ln_29, ln_31, ln_32, ln_34, ln_35, ln_37, ln_38, ln_40, ln_41, ln_43, ln_44, ln_46, ln_47, ln_49, ln_50, ln_52, kn_h hR, lt_h hR, kn_h1 hR, ln_h1 hR, lt_h1 hR, kn_h2 hR, ln_h2 hR, lt_h2 hR, kn_h3 hR, ln_h3 hR, lt_h3 hR, kn_h4 hR, ln_h4 hR, lt_h4 hR, kn_h5 hR, ln_h5 hR, lt_h5 hR, kn_h6 hR, ln_h6 hR, lt_h6 hR, kn_h7 hR, ln_h7 hR, lt_h7 hR, kn_d hR, lt_d hR, kn_d1 hR, ln_d1 hR, lt_d1 hR, kn_d2 hR, ln_d2 hR, lt_d2 hR, kn_d3 hR, ln_d3 hR, lt_d3 hR, kn_d4 hR, ln_d4 hR, lt_d4 hR, kn_d5 hR, ln_d5 hR, lt_d5 hR, kn_d6 hR, ln_d6 hR, lt_d6 hR, kn_d7 hR, ln_d7 hR, lt_d7 hR, va_rf_some, push_s, push_n, nb0, nb1, nbb, Nat.reduceLT, hn, if_true, hix, hcl, hp, e, if_false, nI_1]
      exact ih _ (by rw [so, ha, if_neg (by simp [c]), Int32.or_zero])
theorem c_placedAt (hR : tRef h d R) (h16 : nt ≤ 16) (hP : cP I nt pl) {q : Nat} (hq : q < 23) (hv : ∀ t, t < nt → cv (pl t) < 23) : tEv E 115 0 [.ref 12, .int (nI q), tm_dum, tm_dum] [] (mS I J R) Q = Q (some (so (fun t => cv (pl t) == q) nt)) (mS I J R) := by
  simp only [e_115_0, e_115_1, e_115_2, e_115_3]
  exact c_placedAt_loop hR h16 hP hq hv 16 0 0 (by omega) rfl
theorem c_held (hR : tRef h d R) (hW : mW I nr nt pl) (hP : cP I nt pl) : tEv E 123 0 [.ref 12] [] (mS I J R) Q = Q (some (so (fun t => pl t == 30) nt)) (mS I J R) := by
  have h16 := hW.2.2.2.1
  have hp := fun {Q} => c_placedAt (E := E) (Q := Q) (J := J) hR h16 hP (q := 22) (by decide) (fun t ht => (cv_in hW ht 0).1)
  rw [show nI 22 = 22 from rfl] at hp
  have e : so (fun t => cv (pl t) == 22) nt = so (fun t => pl t == 30) nt := so_cong (fun t ht => by
    have := cv_30 hW ht 0
    have e2 : (cv (pl t) = 22) = (pl t = 30) := this
    show decide (cv (pl t) = 22) = decide (pl t = 30)
    rw [decide_eq_decide, e2])
  simp only [e_123_0, e_123_1, e_123_3, e_123_6, rf_0_0 hR, rf_0_1 hR, rf_0_2 hR, rf_0_3 hR, rf_0_4 hR, rf_0_5 hR, rf_0_6 hR, rf_1_0 hR, rf_3_0 hR, rf_3_2 hR, rf_4_3 hR, rf_4_4 hR, rf_4_5 hR, rf_4_6 hR, rf_4_7 hR, rf_4_8 hR, rf_4_9 hR, rf_12_1 hR, rf_13_3 hR, rf_13_4 hR, rf_13_5 hR, rf_13_6 hR, rf_13_7 hR, rf_13_8 hR, rf_13_9 hR, rf_21_0 hR, rf_21_1 hR, rf_24_0 hR, rf_25_0 hR, rf_26_0 hR, rf_26_1 hR, rf_26_2 hR, rf_26_3 hR, rf_26_4 hR, rf_26_5 hR, rf_26_6 hR, rf_26_7 hR, rf_27_0 hR, rf_27_1 hR, rf_30_0 hR, rf_30_1 hR, rf_33_0 hR, rf_33_1 hR, rf_36_0 hR, rf_36_1 hR, rf_39_0 hR, rf_39_1 hR, rf_42_0 hR, rf_42_1 hR, rf_45_0 hR, rf_45_1 hR, rf_48_0 hR, rf_48_1 hR, rf_51_0 hR, rf_51_1 hR, rf_51_6 hR, rf_51_7 hR, rf_h_3 hR, rf_d_3 hR, rf_h_4 hR, rf_d_4 hR, rf_h_5 hR, rf_d_5 hR, rf_h_6 hR, rf_d_6 hR, rf_h_7 hR, rf_d_7 hR, rf_h_8 hR, rf_d_8 hR, rf_h_9 hR, rf_d_9 hR, rf_12_0 hR, rf_3_1 hR, kn_0, kn_1, kn_2, kn_3, kn_4, kn_5, kn_6, kn_7, kn_8, kn_9, kn_10, kn_11, kn_12, kn_13, kn_14, kn_15, kn_16, kn_17, kn_18, kn_19, kn_20, kn_21, kn_22, kn_23, kn_24, kn_25, kn_26, kn_27, kn_28, kn_29, kn_30, kn_31, kn_32, kn_33, kn_34, kn_35, kn_36, kn_37, kn_38, kn_39, kn_40, kn_41, kn_42, kn_43, kn_44, kn_45, kn_46, kn_47, kn_48, kn_49, kn_50, kn_51, kn_52, kn_53, kn_54, kn_55, ln_2, ln_5, ln_6, ln_7, ln_8, ln_9, ln_10, ln_11, ln_14, ln_15, ln_16, ln_17, ln_18, ln_19, ln_20, ln_22, ln_23, ln_26, ln_28, ln_29, ln_31, ln_32, ln_34, ln_35, ln_37, ln_38, ln_40, ln_41, ln_43, ln_44, ln_46, ln_47, ln_49, ln_50, ln_52, kn_h hR, lt_h hR, kn_h1 hR, ln_h1 hR, lt_h1 hR, kn_h2 hR, ln_h2 hR, lt_h2 hR, kn_h3 hR, ln_h3 hR, lt_h3 hR, kn_h4 hR, ln_h4 hR, lt_h4 hR, kn_h5 hR, ln_h5 hR, lt_h5 hR, kn_h6 hR, ln_h6 hR, lt_h6 hR, kn_h7 hR, ln_h7 hR, lt_h7 hR, kn_d hR, lt_d hR, kn_d1 hR, ln_d1 hR, lt_d1 hR, kn_d2 hR, ln_d2 hR, lt_d2 hR, kn_d3 hR, ln_d3 hR, lt_d3 hR, kn_d4 hR, ln_d4 hR, lt_d4 hR, kn_d5 hR, ln_d5 hR, lt_d5 hR, kn_d6 hR, ln_d6 hR, lt_d6 hR, kn_d7 hR, ln_d7 hR, lt_d7 hR, va_rf_some, push_s, push_n, nb0, nb1, nbb, Nat.reduceLT, hp, e]
theorem c_comingTo_loop (hR : tRef h d R) (hW : mW I nr nt pl) (hP : cP I nt pl) {r : Nat} (hr : r < 6) : ∀ j i acc, i + j = 16 → acc = so (fun t => decide (t < nt) && (fin pl t == r)) i → tEv E 201 4 [.ref 12, .int (nI r), .int acc, .int (nI i)] [] (mS I J R) Q = Q (some (so (fun t => fin pl t == r) nt)) (mS I J R)
  | 0, i, acc, hj, ha => by
    have h16 := hW.2.2.2.1
    obtain rfl : i = 16 := by omega
    have hn : (nI 16 < (16 : Int32)) = False := eq_false (by decide)
    rw [e_201_4]
    simp only [e_201_0, e_201_1, e_201_2, e_201_3, e_201_5, e_201_7, e_201_10, e_201_11, e_201_12, e_201_15, e_201_16, e_201_19, e_201_20, e_201_21, e_201_22, e_201_23, e_201_24, e_201_25, e_201_28, e_201_31, e_201_32, hn, if_false]
    rw [ha, so_cut h16]
  | j + 1, i, acc, hj, ha => by
    have h16 := hW.2.2.2.1
    have h6 := hW.2.2.1
    have hn : (nI i < (16 : Int32)) = True := eq_true (nI_lt (b := 16) (by omega) (by omega))
    have ih := fun acc' e => c_comingTo_loop hR hW hP hr j (i + 1) acc' (by omega) e
    rw [e_201_4]
    by_cases c : i < nt
    · have hcv := cv_in hW c 15
      have hm := mW_ch hW c 15
      have e0 : (cv (fin pl i) = r) ↔ (fin pl i = r) := by
        have hf := fin_out (Nat.lt_of_lt_of_le c h16) (hW.2.2.2.2.2 i c)
        have hf2 := of_decide_eq_false hf
        unfold fin at hf2 ⊢
        unfold cv
        split
        · exact Iff.rfl
        · split <;> omega
      have e : (nI (cv (fin pl i)) = nI r) = (fin pl i = r) := (propext (nI_eq (by have := hcv.1; show cv (ch pl i 15) < _; omega) (by omega))).trans (propext e0)
      simp only [e_201_0, e_201_1, e_201_2, e_201_3, e_201_5, e_201_7, e_201_10, e_201_11, e_201_12, e_201_15, e_201_16, e_201_19, e_201_20, e_201_21, e_201_22, e_201_23, e_201_24, e_201_25, e_201_28, e_201_31, e_201_32, rf_0_0 hR, rf_0_1 hR, rf_0_2 hR, rf_0_3 hR, rf_0_4 hR, rf_0_5 hR, rf_0_6 hR, rf_1_0 hR, rf_3_0 hR, rf_3_2 hR, rf_4_3 hR, rf_4_4 hR, rf_4_5 hR, rf_4_6 hR, rf_4_7 hR, rf_4_8 hR, rf_4_9 hR, rf_12_1 hR, rf_13_3 hR, rf_13_4 hR, rf_13_5 hR, rf_13_6 hR, rf_13_7 hR, rf_13_8 hR, rf_13_9 hR, rf_21_0 hR, rf_21_1 hR, rf_24_0 hR, rf_25_0 hR, rf_26_0 hR, rf_26_1 hR, rf_26_2 hR, rf_26_3 hR, rf_26_4 hR, rf_26_5 hR, rf_26_6 hR, rf_26_7 hR, rf_27_0 hR, rf_27_1 hR, rf_30_0 hR, rf_30_1 hR, rf_33_0 hR, rf_33_1 hR, rf_36_0 hR, rf_36_1 hR, rf_39_0 hR, rf_39_1 hR, rf_42_0 hR, rf_42_1 hR, rf_45_0 hR, rf_45_1 hR, rf_48_0 hR, rf_48_1 hR, rf_51_0 hR, rf_51_1 hR, rf_51_6 hR, rf_51_7 hR, rf_h_3 hR, rf_d_3 hR, rf_h_4 hR, rf_d_4 hR, rf_h_5 hR, rf_d_5 hR, rf_h_6 hR, rf_d_6 hR, rf_h_7 hR, rf_d_7 hR, rf_h_8 hR, rf_d_8 hR, rf_h_9 hR, rf_d_9 hR, rf_12_0 hR, rf_3_1 hR, kn_0, kn_1, kn_2, kn_3, kn_4, kn_5, kn_6, kn_7, kn_8, kn_9, kn_10, kn_11, kn_12, kn_13, kn_14, kn_15, kn_16, kn_17, kn_18, kn_19, kn_20, kn_21, kn_22, kn_23, kn_24, kn_25, kn_26, kn_27, kn_28, kn_29, kn_30, kn_31, kn_32, kn_33, kn_34, kn_35, kn_36, kn_37, kn_38, kn_39, kn_40, kn_41, kn_42, kn_43, kn_44, kn_45, kn_46, kn_47, kn_48, kn_49, kn_50, kn_51, kn_52, kn_53, kn_54, kn_55, ln_2, ln_5, ln_6, ln_7, ln_8, ln_9, ln_10, ln_11, ln_14, ln_15, ln_16, ln_17, ln_18, ln_19, ln_20, ln_22, ln_23, ln_26, ln_28, ln_29, ln_31, ln_32, ln_34, ln_35, ln_37, ln_38, ln_40, ln_41, ln_43, ln_44, ln_46, ln_47, ln_49, ln_50, ln_52, kn_h hR, lt_h hR, kn_h1 hR, ln_h1 hR, lt_h1 hR, kn_h2 hR, ln_h2 hR, lt_h2 hR, kn_h3 hR, ln_h3 hR, lt_h3 hR, kn_h4 hR, ln_h4 hR, lt_h4 hR, kn_h5 hR, ln_h5 hR, lt_h5 hR, kn_h6 hR, ln_h6 hR, lt_h6 hR, kn_h7 hR, ln_h7 hR, lt_h7 hR, kn_d hR, lt_d hR, kn_d1 hR, ln_d1 hR, lt_d1 hR, kn_d2 hR, ln_d2 hR, lt_d2 hR, kn_d3 hR, ln_d3 hR, lt_d3 hR, kn_d4 hR, ln_d4 hR, lt_d4 hR, kn_d5 hR, ln_d5 hR, lt_d5 hR, kn_d6 hR, ln_d6 hR, lt_d6 hR, kn_d7 hR, ln_d7 hR, lt_d7 hR, va_rf_some, push_s, push_n, nb0, nb1, nbb, Nat.reduceLT, hn, if_true, c_comesTo hR hW hP c, e, nI_1]
      by_cases c2 : fin pl i = r
      · rw [if_pos c2]
        exact ih _ (by rw [so, ha, if_pos (by simp [c, c2])])
      · rw [if_neg c2]
        exact ih _ (by rw [so, ha, if_neg (by simp [c2]), Int32.or_zero])
    · have e : ((23 : Int32) = nI r) = False := eq_false (fun e => by have := (nI_eq (a := 23) (by omega) (by omega)).mp e; omega)
      simp only [e_201_0, e_201_1, e_201_2, e_201_3, e_201_5, e_201_7, e_201_10, e_201_11, e_201_12, e_201_15, e_201_16, e_201_19, e_201_20, e_201_21, e_201_22, e_201_23, e_201_24, e_201_25, e_201_28, e_201_31, e_201_32, rf_0_0 hR, rf_0_1 hR, rf_0_2 hR, rf_0_3 hR, rf_0_4 hR, rf_0_5 hR, rf_0_6 hR, rf_1_0 hR, rf_3_0 hR, rf_3_2 hR, rf_4_3 hR, rf_4_4 hR, rf_4_5 hR, rf_4_6 hR, rf_4_7 hR, rf_4_8 hR, rf_4_9 hR, rf_12_1 hR, rf_13_3 hR, rf_13_4 hR, rf_13_5 hR, rf_13_6 hR, rf_13_7 hR, rf_13_8 hR, rf_13_9 hR, rf_21_0 hR, rf_21_1 hR, rf_24_0 hR, rf_25_0 hR, rf_26_0 hR, rf_26_1 hR, rf_26_2 hR, rf_26_3 hR, rf_26_4 hR, rf_26_5 hR, rf_26_6 hR, rf_26_7 hR, rf_27_0 hR, rf_27_1 hR, rf_30_0 hR, rf_30_1 hR, rf_33_0 hR, rf_33_1 hR, rf_36_0 hR, rf_36_1 hR, rf_39_0 hR, rf_39_1 hR, rf_42_0 hR, rf_42_1 hR, rf_45_0 hR, rf_45_1 hR, rf_48_0 hR, rf_48_1 hR, rf_51_0 hR, rf_51_1 hR, rf_51_6 hR, rf_51_7 hR, rf_h_3 hR, rf_d_3 hR, rf_h_4 hR, rf_d_4 hR, rf_h_5 hR, rf_d_5 hR, rf_h_6 hR, rf_d_6 hR, rf_h_7 hR, rf_d_7 hR, rf_h_8 hR, rf_d_8 hR, rf_h_9 hR, rf_d_9 hR, rf_12_0 hR, rf_3_1 hR, kn_0, kn_1, kn_2, kn_3, kn_4, kn_5, kn_6, kn_7, kn_8, kn_9, kn_10, kn_11, kn_12, kn_13, kn_14, kn_15, kn_16, kn_17, kn_18, kn_19, kn_20, kn_21, kn_22, kn_23, kn_24, kn_25, kn_26, kn_27, kn_28, kn_29, kn_30, kn_31, kn_32, kn_33, kn_34, kn_35, kn_36, kn_37, kn_38, kn_39, kn_40, kn_41, kn_42, kn_43, kn_44, kn_45, kn_46, kn_47, kn_48, kn_49, kn_50, kn_51, kn_52, kn_53, kn_54, kn_55, ln_2, ln_5, ln_6, ln_7, ln_8, ln_9, ln_10, ln_11, ln_14, ln_15, ln_16, ln_17, ln_18, ln_19, ln_20, ln_22, ln_23, ln_26, ln_28, ln_29, ln_31, ln_32, ln_34, ln_35, ln_37, ln_38, ln_40, ln_41, ln_43, ln_44, ln_46, ln_47, ln_49, ln_50, ln_52, kn_h hR, lt_h hR, kn_h1 hR, ln_h1 hR, lt_h1 hR, kn_h2 hR, ln_h2 hR, lt_h2 hR, kn_h3 hR, ln_h3 hR, lt_h3 hR, kn_h4 hR, ln_h4 hR, lt_h4 hR, kn_h5 hR, ln_h5 hR, lt_h5 hR, kn_h6 hR, ln_h6 hR, lt_h6 hR, kn_h7 hR, ln_h7 hR, lt_h7 hR, kn_d hR, lt_d hR, kn_d1 hR, ln_d1 hR, lt_d1 hR, kn_d2 hR, ln_d2 hR, lt_d2 hR, kn_d3 hR, ln_d3 hR, lt_d3 hR, kn_d4 hR, ln_d4 hR, lt_d4 hR, kn_d5 hR, ln_d5 hR, lt_d5 hR, kn_d6 hR, ln_d6 hR, lt_d6 hR, kn_d7 hR, ln_d7 hR, lt_d7 hR, va_rf_some, push_s, push_n, nb0, nb1, nbb, Nat.reduceLT, hn, if_true, c_comesTo_no hR hP (show nt ≤ i by omega) (show i < 16 by omega), e, if_false, nI_1]
      exact ih _ (by rw [so, ha, if_neg (by simp [c]), Int32.or_zero])
theorem c_comingTo (hR : tRef h d R) (hW : mW I nr nt pl) (hP : cP I nt pl) {r : Nat} (hr : r < 6) : tEv E 201 0 [.ref 12, .int (nI r), tm_dum, tm_dum] [] (mS I J R) Q = Q (some (so (fun t => fin pl t == r) nt)) (mS I J R) := by
  simp only [e_201_0, e_201_1, e_201_2, e_201_3]
  exact c_comingTo_loop hR hW hP hr 16 0 0 (by omega) rfl
end C3
