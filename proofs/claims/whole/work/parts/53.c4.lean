/-! ===== the class: the weight with you ===== -/
theorem sm_swap (g : Nat → Nat → Int32) (n : Nat) : ∀ m, sm (fun k => sm (fun j => g k j) n) m = sm (fun j => sm (fun k => g k j) m) n
  | 0 => (sm_0 (fun _ _ => rfl)).symm
  | m + 1 => by
    rw [sm, sm_swap g n m, ← sm_add]
    rfl
theorem sm_uniq {P : Nat → Prop} [DecidablePred P] {w : Int32} {k0 n : Nat} (h : k0 < n) (hP : P k0) (hu : ∀ k, k < n → P k → k = k0) : sm (fun k => if P k then w else 0) n = w := by
  refine Eq.trans (sm_cong (fun k hk => ?_)) (sm_one (f := fun _ => w) h)
  by_cases c : k = k0
  · subst c
    rw [if_pos hP, if_pos rfl]
  · rw [if_neg (fun q => c (hu k hk q)), if_neg c]
theorem mtat_30 {I Iw : Nat → Nat → Int32} {nr nt : Nat} {pl : Nat → Nat} (hW : mW Iw nr nt pl) : mtat I pl nt 30 = sm (fun j => if fin pl j = 30 then I 61 j else 0) nt := by
  have h16 := hW.2.2.2.1
  have h6 := hW.2.2.1
  have e : mtat I pl nt 30 = sm (fun k => sm (fun j => if pl k = 30 ∧ (j == k || wi pl j k) = true then I 61 j else 0) nt) nt := by
    unfold mtat mtot
    refine sm_cong (fun k hk => ?_)
    by_cases c : pl k = 30
    · rw [if_pos c]
      exact sm_cong (fun j hj => by simp only [c, true_and])
    · rw [if_neg c]
      exact (sm_0 (fun j hj => if_neg (fun q => c q.1))).symm
  rw [e, sm_swap]
  refine sm_cong (fun j hj => ?_)
  obtain ⟨m, hm, ho, hb⟩ := ends_15 (Nat.lt_of_lt_of_le hj h16) (hW.2.2.2.2.2 j hj)
  have hf := fin_of (Nat.lt_of_lt_of_le hj h16) ho
  have key : ∀ k, k < nt → pl k = 30 ∧ (j == k || wi pl j k) = true → ch pl j m = 30 ∧ ((m = 0 ∧ k = j) ∨ (0 < m ∧ ch pl j (m - 1) = 10 + k)) := by
    rintro k hk ⟨h1, h2⟩
    rw [Bool.or_eq_true, beq_iff_eq] at h2
    rcases h2 with q | q
    · subst q
      have h0 : ch pl j 0 = 30 := h1
      have hm0 : m = 0 := by
        rcases Nat.eq_zero_or_pos m with z | z
        · exact z
        · have := of_decide_eq_true (hb 0 z)
          omega
      subst hm0
      exact ⟨h0, Or.inl ⟨rfl, rfl⟩⟩
    · obtain ⟨i, hi, e⟩ := wi_iff.mp q
      by_cases c : inT (ch pl j i) = true
      · have hn : ch pl j (i + 1) = 30 := by
          rw [ch, nx_in c, e, show 10 + k - 10 = k by omega, h1]
        have him : i + 1 = m := by
          rcases Nat.lt_trichotomy (i + 1) m with z | z | z
          · have := of_decide_eq_true (hb (i + 1) z)
            omega
          · exact z
          · have := ch_stop ho i (by omega)
            rw [this, ho] at c
            cases c
        rw [← him]
        exact ⟨hn, Or.inr ⟨by omega, e⟩⟩
      · have c' : inT (ch pl j i) = false := by simpa using c
        exfalso
        have c2 := of_decide_eq_false c'
        omega
  by_cases c : fin pl j = 30
  · rw [if_pos c]
    have c30 : ch pl j m = 30 := by rw [← hf, c]
    rcases Nat.eq_zero_or_pos m with z | z
    · subst z
      refine sm_uniq (P := fun k => pl k = 30 ∧ (j == k || wi pl j k) = true) (k0 := j) hj ⟨c30, by simp⟩ (fun k hk q => ?_)
      rcases (key k hk q).2 with ⟨_, a⟩ | ⟨a, _⟩
      · exact a
      · omega
    · have hin := hb (m - 1) (by omega)
      obtain ⟨g1, g2, g3⟩ := mW_in hW hj hin
      have e10 : 10 + (ch pl j (m - 1) - 10) = ch pl j (m - 1) := by omega
      refine sm_uniq (P := fun k => pl k = 30 ∧ (j == k || wi pl j k) = true) (k0 := ch pl j (m - 1) - 10) g1 ⟨?_, ?_⟩ (fun k hk q => ?_)
      · have : ch pl j (m - 1 + 1) = pl (ch pl j (m - 1) - 10) := by rw [ch, nx_in hin]
        rw [← this, show m - 1 + 1 = m by omega, c30]
      · rw [Bool.or_eq_true]
        exact Or.inr (wi_iff.mpr ⟨m - 1, by omega, e10.symm⟩)
      · rcases (key k hk q).2 with ⟨a, _⟩ | ⟨_, a⟩
        · omega
        · omega
  · rw [if_neg c]
    exact sm_0 (fun k hk => if_neg (fun q => c (by rw [hf, (key k hk q).1])))
section C5
variable {E : tm_Env} {Q : Option Int32 → tm_St → Prop} {I : Nat → Nat → Int32} {J : Nat → Nat → Int64} {R : Nat → Nat → Option Nat} {h d : Nat} {nr nt y : Nat} {pl : Nat → Nat}
theorem c_weightWithYou_loop (hR : tRef h d R) {Iw : Nat → Nat → Int32} (hW : mW Iw nr nt pl) (hP : cP I nt pl) (hw : cWt I h nt) : ∀ j i acc, i + j = 16 → acc = sm (fun k => if k < nt ∧ fin pl k = 30 then I 61 k else 0) i → tEv E 96 4 [.ref 12, .int acc, .int (nI i)] [] (mS I J R) Q = Q (some (mtat I pl nt 30)) (mS I J R)
  | 0, i, acc, hj, ha => by
    have h16 := hW.2.2.2.1
    obtain rfl : i = 16 := by omega
    have hn : (nI 16 < (16 : Int32)) = False := eq_false (by decide)
    rw [e_96_4]
    simp only [e_96_0, e_96_1, e_96_2, e_96_3, e_96_5, e_96_7, e_96_10, e_96_11, e_96_12, e_96_15, e_96_17, e_96_20, e_96_21, e_96_22, e_96_25, e_96_28, e_96_29, e_96_30, e_96_31, e_96_32, e_96_35, e_96_38, e_96_39, hn, if_false]
    rw [ha, mtat_30 hW, sm_more h16 (fun i h1 _ => if_neg (fun c => by omega))]
    rw [sm_cong (f := fun k => if k < nt ∧ fin pl k = 30 then I 61 k else 0) (g := fun k => if fin pl k = 30 then I 61 k else 0) (fun k hk => by simp only [hk, true_and])]
  | j + 1, i, acc, hj, ha => by
    have h16 := hW.2.2.2.1
    have hn : (nI i < (16 : Int32)) = True := eq_true (nI_lt (b := 16) (by omega) (by omega))
    have hix := inb_nI (j := i) (n := 16) (by omega) (by decide)
    have hcl := nI_cl (n := i) (by omega)
    have hwi := hw i (by omega)
    have ih := fun acc' e => c_weightWithYou_loop hR hW hP hw j (i + 1) acc' (by omega) e
    rw [e_96_4]
    by_cases c : i < nt
    · rw [if_pos c] at hwi
      have hcv := cv_in hW c 15
      have h30 := cv_30 hW c 15
      have e : (nI (cv (fin pl i)) = 22) = (fin pl i = 30) := (propext (nI_eq (b := 22) (by have := hcv.1; show cv (ch pl i 15) < _; omega) (by omega))).trans h30
      simp only [e_96_0, e_96_1, e_96_2, e_96_3, e_96_5, e_96_7, e_96_10, e_96_11, e_96_12, e_96_15, e_96_17, e_96_20, e_96_21, e_96_22, e_96_25, e_96_28, e_96_29, e_96_30, e_96_31, e_96_32, e_96_35, e_96_38, e_96_39, rf_0_0 hR, rf_0_1 hR, rf_0_2 hR, rf_0_3 hR, rf_0_4 hR, rf_0_5 hR, rf_0_6 hR, rf_1_0 hR, rf_3_0 hR, rf_3_2 hR, rf_4_3 hR, rf_4_4 hR, rf_4_5 hR, rf_4_6 hR, rf_4_7 hR, rf_4_8 hR, rf_4_9 hR, rf_12_1 hR, rf_13_3 hR, rf_13_4 hR, rf_13_5 hR, rf_13_6 hR, rf_13_7 hR, rf_13_8 hR, rf_13_9 hR, rf_21_0 hR, rf_21_1 hR, rf_24_0 hR, rf_25_0 hR, rf_26_0 hR, rf_26_1 hR, rf_26_2 hR, rf_26_3 hR, rf_26_4 hR, rf_26_5 hR, rf_26_6 hR, rf_26_7 hR, rf_27_0 hR, rf_27_1 hR, rf_30_0 hR, rf_30_1 hR, rf_33_0 hR, rf_33_1 hR, rf_36_0 hR, rf_36_1 hR, rf_39_0 hR, rf_39_1 hR, rf_42_0 hR, rf_42_1 hR, rf_45_0 hR, rf_45_1 hR, rf_48_0 hR, rf_48_1 hR, rf_51_0 hR, rf_51_1 hR, rf_51_6 hR, rf_51_7 hR, rf_h_3 hR, rf_d_3 hR, rf_h_4 hR, rf_d_4 hR, rf_h_5 hR, rf_d_5 hR, rf_h_6 hR, rf_d_6 hR, rf_h_7 hR, rf_d_7 hR, rf_h_8 hR, rf_d_8 hR, rf_h_9 hR, rf_d_9 hR, rf_12_0 hR, rf_3_1 hR, kn_0, kn_1, kn_2, kn_3, kn_4, kn_5, kn_6, kn_7, kn_8, kn_9, kn_10, kn_11, kn_12, kn_13, kn_14, kn_15, kn_16, kn_17, kn_18, kn_19, kn_20, kn_21, kn_22, kn_23, kn_24, kn_25, kn_26, kn_27, kn_28, kn_29, kn_30, kn_31, kn_32, kn_33, kn_34, kn_35, kn_36, kn_37, kn_38, kn_39, kn_40, kn_41, kn_42, kn_43, kn_44, kn_45, kn_46, kn_47, kn_48, kn_49, kn_50, kn_51, kn_52, kn_53, kn_54, kn_55, ln_2, ln_5, ln_6, ln_7, ln_8, ln_9, ln_10, ln_11, ln_14, ln_15, ln_16, ln_17, ln_18, ln_19, ln_20, ln_22, ln_23, ln_26, ln_28, ln_29, ln_31, ln_32, ln_34, ln_35, ln_37, ln_38, ln_40, ln_41, ln_43, ln_44, ln_46, ln_47, ln_49, ln_50, ln_52, kn_h hR, lt_h hR, kn_h1 hR, ln_h1 hR, lt_h1 hR, kn_h2 hR, ln_h2 hR, lt_h2 hR, kn_h3 hR, ln_h3 hR, lt_h3 hR, kn_h4 hR, ln_h4 hR, lt_h4 hR, kn_h5 hR, ln_h5 hR, lt_h5 hR, kn_h6 hR, ln_h6 hR, lt_h6 hR, kn_h7 hR, ln_h7 hR, lt_h7 hR, kn_d hR, lt_d hR, kn_d1 hR, ln_d1 hR, lt_d1 hR, kn_d2 hR, ln_d2 hR, lt_d2 hR, kn_d3 hR, ln_d3 hR, lt_d3 hR, kn_d4 hR, ln_d4 hR, lt_d4 hR, kn_d5 hR, ln_d5 hR, lt_d5 hR, kn_d6 hR, ln_d6 hR, lt_d6 hR, kn_d7 hR, ln_d7 hR, lt_d7 hR, va_rf_some, push_s, push_n, nb0, nb1, nbb, Nat.reduceLT, hn, if_true, c_comesTo hR hW hP c, e, hix, hcl, hwi, nI_1]
      by_cases c2 : fin pl i = 30
      · rw [if_pos c2]
        exact ih _ (by rw [sm, ha, if_pos ⟨c, c2⟩])
      · rw [if_neg c2]
        exact ih _ (by rw [sm, ha, if_neg (fun q => c2 q.2), Int32.add_zero])
    · simp only [e_96_0, e_96_1, e_96_2, e_96_3, e_96_5, e_96_7, e_96_10, e_96_11, e_96_12, e_96_15, e_96_17, e_96_20, e_96_21, e_96_22, e_96_25, e_96_28, e_96_29, e_96_30, e_96_31, e_96_32, e_96_35, e_96_38, e_96_39, rf_0_0 hR, rf_0_1 hR, rf_0_2 hR, rf_0_3 hR, rf_0_4 hR, rf_0_5 hR, rf_0_6 hR, rf_1_0 hR, rf_3_0 hR, rf_3_2 hR, rf_4_3 hR, rf_4_4 hR, rf_4_5 hR, rf_4_6 hR, rf_4_7 hR, rf_4_8 hR, rf_4_9 hR, rf_12_1 hR, rf_13_3 hR, rf_13_4 hR, rf_13_5 hR, rf_13_6 hR, rf_13_7 hR, rf_13_8 hR, rf_13_9 hR, rf_21_0 hR, rf_21_1 hR, rf_24_0 hR, rf_25_0 hR, rf_26_0 hR, rf_26_1 hR, rf_26_2 hR, rf_26_3 hR, rf_26_4 hR, rf_26_5 hR, rf_26_6 hR, rf_26_7 hR, rf_27_0 hR, rf_27_1 hR, rf_30_0 hR, rf_30_1 hR, rf_33_0 hR, rf_33_1 hR, rf_36_0 hR, rf_36_1 hR, rf_39_0 hR, rf_39_1 hR, rf_42_0 hR, rf_42_1 hR, rf_45_0 hR, rf_45_1 hR, rf_48_0 hR, rf_48_1 hR, rf_51_0 hR, rf_51_1 hR, rf_51_6 hR, rf_51_7 hR, rf_h_3 hR, rf_d_3 hR, rf_h_4 hR, rf_d_4 hR, rf_h_5 hR, rf_d_5 hR, rf_h_6 hR, rf_d_6 hR, rf_h_7 hR, rf_d_7 hR, rf_h_8 hR, rf_d_8 hR, rf_h_9 hR, rf_d_9 hR, rf_12_0 hR, rf_3_1 hR, kn_0, kn_1, kn_2, kn_3, kn_4, kn_5, kn_6, kn_7, kn_8, kn_9, kn_10, kn_11, kn_12, kn_13, kn_14, kn_15, kn_16, kn_17, kn_18, kn_19, kn_20, kn_21, kn_22, kn_23, kn_24, kn_25, kn_26, kn_27, kn_28, kn_29, kn_30, kn_31, kn_32, kn_33, kn_34, kn_35, kn_36, kn_37, kn_38, kn_39, kn_40, kn_41, kn_42, kn_43, kn_44, kn_45, kn_46, kn_47, kn_48, kn_49, kn_50, kn_51, kn_52, kn_53, kn_54, kn_55, ln_2, ln_5, ln_6, ln_7, ln_8, ln_9, ln_10, ln_11, ln_14, ln_15, ln_16, ln_17, ln_18, ln_19, ln_20, ln_22, ln_23, ln_26, ln_28, ln_29, ln_31, ln_32, ln_34, ln_35, ln_37, ln_38, ln_40, ln_41, ln_43, ln_44, ln_46, ln_47, ln_49, ln_50, ln_52, kn_h hR, lt_h hR, kn_h1 hR, ln_h1 hR, lt_h1 hR, kn_h2 hR, ln_h2 hR, lt_h2 hR, kn_h3 hR, ln_h3 hR, lt_h3 hR, kn_h4 hR, ln_h4 hR, lt_h4 hR, kn_h5 hR, ln_h5 hR, lt_h5 hR, kn_h6 hR, ln_h6 hR, lt_h6 hR, kn_h7 hR, ln_h7 hR, lt_h7 hR, kn_d hR, lt_d hR, kn_d1 hR, ln_d1 hR, lt_d1 hR, kn_d2 hR, ln_d2 hR, lt_d2 hR, kn_d3 hR, ln_d3 hR, lt_d3 hR, kn_d4 hR, ln_d4 hR, lt_d4 hR, kn_d5 hR, ln_d5 hR, lt_d5 hR, kn_d6 hR, ln_d6 hR, lt_d6 hR, kn_d7 hR, ln_d7 hR, lt_d7 hR, va_rf_some, push_s, push_n, nb0, nb1, nbb, Nat.reduceLT, hn, if_true, c_comesTo_no hR hP (show nt ≤ i by omega) (show i < 16 by omega), show ((23 : Int32) = 22) = False from eq_false (by decide), if_false, nI_1]
      exact ih _ (by rw [sm, ha, if_neg (fun q => c q.1), Int32.add_zero])
theorem c_weightWithYou (hR : tRef h d R) {Iw : Nat → Nat → Int32} (hW : mW Iw nr nt pl) (hP : cP I nt pl) (hw : cWt I h nt) : tEv E 96 0 [.ref 12, tm_dum, tm_dum] [] (mS I J R) Q = Q (some (mtat I pl nt 30)) (mS I J R) := by
  simp only [e_96_0, e_96_1, e_96_2, e_96_3]
  exact c_weightWithYou_loop hR hW hP hw 16 0 0 (by omega) rfl
end C5
