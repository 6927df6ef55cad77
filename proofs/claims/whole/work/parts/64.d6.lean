/-! ===== the class: which rooms can be reached ===== -/
section D6
variable {E : tm_Env} {Q : Option Int32 → tm_St → Prop} {I : Nat → Nat → Int32} {J : Nat → Nat → Int64} {R : Nat → Nat → Option Nat} {h d : Nat} {nr nt y : Nat} {pl : Nat → Nat}
theorem dst_keep {w : Bool} {a r n : Nat} (h0 : dst I nr w a n r ≠ -4) : ∀ m, n ≤ m → dst I nr w a m r = dst I nr w a n r := by
  intro m hm
  induction hm with
  | refl => rfl
  | step _ ih =>
    rw [dst, if_pos (by rw [ih]; exact h0), ih]
theorem dst_at {w : Bool} {a r m : Nat} : ∀ {n : Nat}, n < 1000 → m ≤ n → dst I nr w a n r = nI m → dst I nr w a m r = nI m
  | 0, _, hm, e => by
    obtain rfl : m = 0 := by omega
    exact e
  | n + 1, hn, hm, e => by
    by_cases c : m = n + 1
    · rw [c]
      rw [c] at e
      exact e
    · rw [dst] at e
      by_cases c2 : dst I nr w a n r = -4
      · rw [if_neg (by simpa using c2)] at e
        split at e
        · have := (nI_eq (by omega) (by omega)).mp e
          omega
        · exact absurd e.symm (nI_n4 (by omega))
      · rw [if_pos c2] at e
        exact dst_at (by omega) (by omega) e
theorem dst_prev {w : Bool} {a r m : Nat} (hm : m < 999) (e : dst I nr w a (m + 1) r = nI (m + 1)) : ∃ j, j < 4 * nr ∧ dst I nr w a m (j / 4) = nI m ∧ pas I w j = true ∧ I 64 j = nI r := by
  rw [dst] at e
  by_cases c2 : dst I nr w a m r = -4
  · rw [if_neg (by simpa using c2)] at e
    split at e
    · rename_i c
      obtain ⟨j, h1, h2⟩ := anyb_iff.mp c
      simp only [Bool.and_eq_true, decide_eq_true_eq] at h2
      exact ⟨j, h1, h2.1.1, h2.1.2, h2.2⟩
    · exact absurd e.symm (nI_n4 (by omega))
  · rw [if_pos c2] at e
    rcases dst_cases I nr w a m r with q | ⟨k, h1, h2⟩
    · exact absurd q c2
    · rw [h2] at e
      have := (nI_eq (by omega) (by omega)).mp e
      omega
theorem dst_lt (hY : mY I nr nt y) (h6 : nr ≤ 6) {w : Bool} {a : Nat} (ha : a < nr) : ∀ {n r : Nat}, r < 1000 → dst I nr w a n r ≠ -4 → r < nr
  | 0, r, _, h0 => by
    rw [dst] at h0
    split at h0
    · omega
    · exact absurd rfl h0
  | n + 1, r, hr, h0 => by
    rw [dst] at h0
    split at h0
    · rename_i c
      exact dst_lt hY h6 ha hr c
    · split at h0
      · rename_i c
        obtain ⟨j, h1, h2⟩ := anyb_iff.mp c
        simp only [Bool.and_eq_true, decide_eq_true_eq] at h2
        have e := h2.2
        rcases hY.2.2.1 j (by omega) with q | ⟨k, hk, q⟩
        · rw [q] at e
          exact absurd e.symm (nI_n4 (by omega))
        · rw [q] at e
          have := (nI_eq (by omega) (by omega)).mp e
          omega
      · exact absurd rfl h0
theorem dst_chain {w : Bool} {a b N m : Nat} (hN : N < 900) (hm : m ≤ N) (e : dst I nr w a N b = nI m) : ∀ j i, i + j = m → ∃ r, dst I nr w a N r = nI i ∧ (j = 0 → r = b) ∧ (0 < j → r < nr)
  | 0, i, hi => ⟨b, by rw [e, show i = m by omega], fun _ => rfl, fun q => absurd q (by decide)⟩
  | j + 1, i, hi => by
    obtain ⟨r, h1, -, -⟩ := dst_chain hN hm e j (i + 1) (by omega)
    have h2 := dst_at (by omega) (by omega) h1
    obtain ⟨k, h3, h4, -, -⟩ := dst_prev (by omega) h2
    refine ⟨k / 4, ?_, fun q => by omega, fun _ => by omega⟩
    rw [dst_keep (n := i) (by rw [h4]; exact nI_n4 (by omega)) N (by omega), h4]
theorem dst_m {w : Bool} {a b N m : Nat} (hb : b < nr) (hN : N < 900) (hm : m ≤ N) (e : dst I nr w a N b = nI m) : m < nr := by
  have hc : ∀ i, i < m + 1 → ∃ r, dst I nr w a N r = nI i ∧ r < nr := fun i hi => by
    obtain ⟨r, h1, h2, h3⟩ := dst_chain hN hm e (m - i) i (by omega)
    refine ⟨r, h1, ?_⟩
    by_cases c : m - i = 0
    · rw [h2 c]; exact hb
    · exact h3 (by omega)
  have := holes nr (m + 1) (fun i => if hi : i < m + 1 then (hc i hi).choose else 0) (by
    intro i hi
    show (if hi : i < m + 1 then (hc i hi).choose else 0) < nr
    rw [dif_pos hi]
    exact (hc i hi).choose_spec.2) (by
    intro i j hij hj
    show (if hi : i < m + 1 then (hc i hi).choose else 0) ≠ (if hi : j < m + 1 then (hc j hi).choose else 0)
    rw [dif_pos (show i < m + 1 by omega), dif_pos hj]
    intro q
    have e1 := (hc i (by omega)).choose_spec.1
    have e2 := (hc j hj).choose_spec.1
    rw [q, e2] at e1
    have := (nI_eq (by omega) (by omega)).mp e1
    omega)
  omega
/-- the class's round -/
theorem dst_round (hY : mY I nr nt y) (h6 : nr ≤ 6) {w : Bool} {a n : Nat} (ha : a < nr) (hn : n < 900) {r : Nat} (hr : r < 1000) : (!decide (dst I nr w a (n + 1) r = -4)) = (!decide (dst I nr w a n r = -4) || anyb (fun k => !decide (dst I nr w a n (k / 4) = -4) && pas I w k && decide (I 64 k = nI r)) 24) := by
  by_cases c : dst I nr w a n r = -4
  · rw [decide_eq_true c, Bool.not_true, Bool.false_or]
    cases q : anyb (fun k => !decide (dst I nr w a n (k / 4) = -4) && pas I w k && decide (I 64 k = nI r)) 24 with
    | false =>
      have : dst I nr w a (n + 1) r = -4 := by
        rw [dst, if_neg (by simpa using c), if_neg]
        intro q2
        obtain ⟨j, h1, h2⟩ := anyb_iff.mp q2
        simp only [Bool.and_eq_true, decide_eq_true_eq] at h2
        have : anyb (fun k => !decide (dst I nr w a n (k / 4) = -4) && pas I w k && decide (I 64 k = nI r)) 24 = true := anyb_iff.mpr ⟨j, by omega, by
          rw [h2.1.1, h2.1.2, decide_eq_true h2.2, decide_eq_false (nI_n4 (by omega))]
          rfl⟩
        rw [q] at this
        cases this
      rw [this]
      rfl
    | true =>
      obtain ⟨k, h1, h2⟩ := anyb_iff.mp q
      simp only [Bool.and_eq_true, decide_eq_true_eq, Bool.not_eq_true', decide_eq_false_iff_not] at h2
      obtain ⟨⟨h3, h4⟩, h5⟩ := h2
      have hk := dst_lt hY h6 ha (by omega) h3
      rcases dst_cases I nr w a n (k / 4) with e | ⟨m, hm, e⟩
      · exact absurd e h3
      · have e2 := dst_at (by omega) hm e
        have e3 : dst I nr w a (m + 1) r ≠ -4 := by
          rw [dst]
          split
          · rename_i g
            exact g
          · rw [if_pos (anyb_iff.mpr ⟨k, by omega, by rw [decide_eq_true e2, h4, decide_eq_true h5]; rfl⟩)]
            exact nI_n4 (by omega)
        have e4 := dst_keep e3 (n + 1) (by omega)
        rw [decide_eq_false (by rw [e4]; exact e3)]
        rfl
  · rw [decide_eq_false (show ¬ dst I nr w a (n + 1) r = -4 by rw [dst_keep c (n + 1) (by omega)]; exact c), decide_eq_false c]
    rfl
theorem c_besides_loop (hR : tRef h d R) (hC : RR I h nr nt y pl) {s : Int32} {w : Bool} : ∀ j i acc l5, i + j = 24 → (∀ t, t < 32 → bt acc t = anyb (fun k => bt s (k / 4) && pas I w k && decide (I 64 k = nI t)) i) → ∀ v, (∀ t, t < 32 → bt v t = anyb (fun k => bt s (k / 4) && pas I w k && decide (I 64 k = nI t)) 24) → tEv E 209 5 [.ref 12, .int s, .int (b2i w), .int acc, .int (nI i), l5] [] (mS I J R) Q = Q (some v) (mS I J R)
  | 0, i, acc, l5, hj, ha, v, hv => by
    obtain rfl : i = 24 := by omega
    have hn : (nI 24 < (24 : Int32)) = False := eq_false (by decide)
    rw [e_209_5]
    simp only [e_209_0, e_209_1, e_209_2, e_209_3, e_209_7, e_209_9, e_209_12, e_209_13, e_209_15, e_209_16, e_209_17, e_209_20, e_209_23, e_209_24, e_209_27, e_209_30, e_209_32, e_209_33, e_209_35, e_209_38, e_209_39, e_209_42, e_209_43, e_209_45, e_209_47, e_209_50, e_209_51, e_209_54, e_209_55, e_209_57, e_209_60, e_209_63, e_209_64, e_209_65, e_209_66, e_209_69, e_209_72, e_209_74, e_209_75, e_209_76, e_209_77, e_209_78, e_209_81, e_209_84, e_209_85, hn, if_false]
    congr 2
    exact b_ext (fun t ht => by rw [ha t ht, hv t ht])
  | j + 1, i, acc, l5, hj, ha, v, hv => by
    have h16 := RR_16 hC
    have hn : (nI i < (24 : Int32)) = True := eq_true (nI_lt (b := 24) (by omega) (by omega))
    have n4 : ¬ ((4 : Int32) = 0) := by decide
    have hix := inb_nI (j := i) (n := 24) (by omega) (by decide)
    have hcl := nI_cl (n := i) (by omega)
    have hd := hC.2.2.1.2.1.1 i (by omega)
    have ih := fun acc' l5' e => c_besides_loop hR hC j (i + 1) acc' l5' (by omega) e v hv
    have no : ∀ l5', (bt s (i / 4) && pas I w i) = false → tEv E 209 5 [.ref 12, .int s, .int (b2i w), .int acc, .int (nI (i + 1)), l5'] [] (mS I J R) Q = Q (some v) (mS I J R) := fun l5' q => ih _ _ (fun t ht => by rw [ha t ht, anyb, q, Bool.false_and, Bool.or_false])
    have yes : ∀ l5', (bt s (i / 4) && pas I w i) = true → I 64 i ≠ -4 → tEv E 209 5 [.ref 12, .int s, .int (b2i w), .int (acc ||| ((1 : Int32) <<< (I 64 i &&& 31))), .int (nI (i + 1)), l5'] [] (mS I J R) Q = Q (some v) (mS I J R) := fun l5' q q2 => ih _ _ (fun t ht => by
      rcases hC.2.1.2.2.1 i (by omega) with e | ⟨r, hr, e⟩
      · exact absurd e q2
      · have h6 := hC.1.2.2.1
        rw [e, b_or, ha t ht, b_one (show r < 32 by omega) ht, anyb, q, Bool.true_and, e]
        have : decide (nI r = nI t) = decide (t = r) := by
          rw [decide_eq_decide, nI_eq (by omega) (by omega)]
          exact eq_comm
        rw [this])
    rw [e_209_5]
    simp only [e_209_0, e_209_1, e_209_2, e_209_3, e_209_7, e_209_9, e_209_12, e_209_13, e_209_15, e_209_16, e_209_17, e_209_20, e_209_23, e_209_24, e_209_27, e_209_30, e_209_32, e_209_33, e_209_35, e_209_38, e_209_39, e_209_42, e_209_43, e_209_45, e_209_47, e_209_50, e_209_51, e_209_54, e_209_55, e_209_57, e_209_60, e_209_63, e_209_64, e_209_65, e_209_66, e_209_69, e_209_72, e_209_74, e_209_75, e_209_76, e_209_77, e_209_78, e_209_81, e_209_84, e_209_85, e_209_16 n4, rf_0_0 hR, rf_0_1 hR, rf_0_2 hR, rf_0_3 hR, rf_0_4 hR, rf_0_5 hR, rf_0_6 hR, rf_1_0 hR, rf_3_0 hR, rf_3_2 hR, rf_4_3 hR, rf_4_4 hR, rf_4_5 hR, rf_4_6 hR, rf_4_7 hR, rf_4_8 hR, rf_4_9 hR, rf_12_1 hR, rf_13_3 hR, rf_13_4 hR, rf_13_5 hR, rf_13_6 hR, rf_13_7 hR, rf_13_8 hR, rf_13_9 hR, rf_21_0 hR, rf_21_1 hR, rf_24_0 hR, rf_25_0 hR, rf_26_0 hR, rf_26_1 hR, rf_26_2 hR, rf_26_3 hR, rf_26_4 hR, rf_26_5 hR, rf_26_6 hR, rf_26_7 hR, rf_27_0 hR, rf_27_1 hR, rf_30_0 hR, rf_30_1 hR, rf_33_0 hR, rf_33_1 hR, rf_36_0 hR, rf_36_1 hR, rf_39_0 hR, rf_39_1 hR, rf_42_0 hR, rf_42_1 hR, rf_45_0 hR, rf_45_1 hR, rf_48_0 hR, rf_48_1 hR, rf_51_0 hR, rf_51_1 hR, rf_51_6 hR, rf_51_7 hR, rf_h_3 hR, rf_d_3 hR, rf_h_4 hR, rf_d_4 hR, rf_h_5 hR, rf_d_5 hR, rf_h_6 hR, rf_d_6 hR, rf_h_7 hR, rf_d_7 hR, rf_h_8 hR, rf_d_8 hR, rf_h_9 hR, rf_d_9 hR, rf_12_0 hR, rf_3_1 hR, kn_0, kn_1, kn_2, kn_3, kn_4, kn_5, kn_6, kn_7, kn_8, kn_9, kn_10, kn_11, kn_12, kn_13, kn_14, kn_15, kn_16, kn_17, kn_18, kn_19, kn_20, kn_21, kn_22, kn_23, kn_24, kn_25, kn_26, kn_27, kn_28, kn_29, kn_30, kn_31, kn_32, kn_33, kn_34, kn_35, kn_36, kn_37, kn_38, kn_39, kn_40, kn_41, kn_42, kn_43, kn_44, kn_45, kn_46, kn_47, kn_48, kn_49, kn_50, kn_51, kn_52, kn_53, kn_54, kn_55, ln_2, ln_5, ln_6, ln_7, ln_8, ln_9, ln_10, ln_11, ln_14, ln_15, ln_16, ln_17, ln_18, ln_19, ln_20, ln_22, ln_23, ln_26, ln_28, ln_29, ln_31, ln_32, ln_34, ln_35, ln_37, ln_38, ln_40, ln_41, ln_43, ln_44, ln_46, ln_47, ln_49, ln_50, ln_52, kn_h hR, lt_h hR, kn_h1 hR, ln_h1 hR, lt_h1 hR, kn_h2 hR, ln_h2 hR, lt_h2 hR, kn_h3 hR, ln_h3 hR, lt_h3 hR, kn_h4 hR, ln_h4 hR, lt_h4 hR, kn_h5 hR, ln_h5 hR, lt_h5 hR, kn_h6 hR, ln_h6 hR, lt_h6 hR, kn_h7 hR, ln_h7 hR, lt_h7 hR, kn_d hR, lt_d hR, kn_d1 hR, ln_d1 hR, lt_d1 hR, kn_d2 hR, ln_d2 hR, lt_d2 hR, kn_d3 hR, ln_d3 hR, lt_d3 hR, kn_d4 hR, ln_d4 hR, lt_d4 hR, kn_d5 hR, ln_d5 hR, lt_d5 hR, kn_d6 hR, ln_d6 hR, lt_d6 hR, kn_d7 hR, ln_d7 hR, lt_d7 hR, va_rf_some, push_s, push_n, nb0, nb1, nbb, Nat.reduceLT, hn, if_true, div4 i (by omega), c_has (show i / 4 < 32 by omega), b2i_0, hix, hcl, hd, c_isPassable hR hC (show i < 24 by omega), nI_1]
    unfold pas at no yes
    cases c1 : bt s (i / 4) with
    | false =>
      rw [if_pos rfl]
      exact no _ (by rw [c1]; rfl)
    | true =>
      rw [if_neg (by decide)]
      by_cases c2 : I 64 i = -4
      · rw [if_pos c2]
        exact no _ (by rw [decide_eq_true c2]; simp)
      · rw [if_neg c2]
        cases w with
        | true =>
          exact yes _ (by rw [c1, decide_eq_false c2]; rfl) c2
        | false =>
          cases c3 : (decide (I 65 i = -4) || !mcl I (I 65 i).toNatClampNeg) with
          | true => exact yes _ (by rw [c1, decide_eq_false c2, Bool.false_or, c3]; rfl) c2
          | false => exact no _ (by rw [c1, decide_eq_false c2, Bool.false_or, c3]; rfl)
theorem c_steps_loop (hR : tRef h d R) (hC : RR I h nr nt y pl) {a b : Nat} (ha : a < nr) (hb : b < nr) {w : Bool} {l1 : Value} : ∀ j i acc, i + j = 6 → (∀ t, t < 32 → bt acc t = !decide (dst I nr w a i t = -4)) → (∀ k, k < i → dst I nr w a k b = -4) → tEv E 210 41 [.ref 0, l1, .int (nI b), .int (b2i w), .int acc, .int (nI i)] [] (mS I J R) Q = Q (some (dst I nr w a nr b)) (mS I J R)
  | 0, i, acc, hj, hac, hno => by
    obtain rfl : i = 6 := by omega
    have h6 := hC.1.2.2.1
    have hn : (nI 6 < (6 : Int32)) = False := eq_false (by decide)
    rw [e_210_41]
    simp only [e_210_0, e_210_1, e_210_4, e_210_5, e_210_8, e_210_11, e_210_12, e_210_15, e_210_16, e_210_19, e_210_22, e_210_23, e_210_26, e_210_27, e_210_28, e_210_31, e_210_32, e_210_33, e_210_34, e_210_35, e_210_36, e_210_38, e_210_39, e_210_43, e_210_45, e_210_48, e_210_50, e_210_51, e_210_54, e_210_57, e_210_59, e_210_60, e_210_62, e_210_63, e_210_66, e_210_68, e_210_69, e_210_70, e_210_73, e_210_74, e_210_77, e_210_78, e_210_81, e_210_82, e_210_84, e_210_87, e_210_90, e_210_92, hn, if_false]
    congr 2
    rcases dst_cases I nr w a nr b with e | ⟨m, h1, h2⟩
    · exact e.symm
    · have h3 := dst_m hb (by omega) h1 h2
      have h4 := dst_at (by omega) h1 h2
      rw [hno m (by omega)] at h4
      exact absurd h4.symm (nI_n4 (by omega))
  | j + 1, i, acc, hj, hac, hno => by
    have h6 := hC.1.2.2.1
    have hn : (nI i < (6 : Int32)) = True := eq_true (nI_lt (b := 6) (by omega) (by omega))
    have hbb := hac b (by omega)
    have ih := fun acc' e1 e2 => c_steps_loop hR hC ha hb (w := w) (l1 := l1) j (i + 1) acc' (by omega) e1 e2
    rw [e_210_41]
    simp only [e_210_0, e_210_1, e_210_4, e_210_5, e_210_8, e_210_11, e_210_12, e_210_15, e_210_16, e_210_19, e_210_22, e_210_23, e_210_26, e_210_27, e_210_28, e_210_31, e_210_32, e_210_33, e_210_34, e_210_35, e_210_36, e_210_38, e_210_39, e_210_43, e_210_45, e_210_48, e_210_50, e_210_51, e_210_54, e_210_57, e_210_59, e_210_60, e_210_62, e_210_63, e_210_66, e_210_68, e_210_69, e_210_70, e_210_73, e_210_74, e_210_77, e_210_78, e_210_81, e_210_82, e_210_84, e_210_87, e_210_90, e_210_92, rf_0_0 hR, rf_0_1 hR, rf_0_2 hR, rf_0_3 hR, rf_0_4 hR, rf_0_5 hR, rf_0_6 hR, rf_1_0 hR, rf_3_0 hR, rf_3_2 hR, rf_4_3 hR, rf_4_4 hR, rf_4_5 hR, rf_4_6 hR, rf_4_7 hR, rf_4_8 hR, rf_4_9 hR, rf_12_1 hR, rf_13_3 hR, rf_13_4 hR, rf_13_5 hR, rf_13_6 hR, rf_13_7 hR, rf_13_8 hR, rf_13_9 hR, rf_21_0 hR, rf_21_1 hR, rf_24_0 hR, rf_25_0 hR, rf_26_0 hR, rf_26_1 hR, rf_26_2 hR, rf_26_3 hR, rf_26_4 hR, rf_26_5 hR, rf_26_6 hR, rf_26_7 hR, rf_27_0 hR, rf_27_1 hR, rf_30_0 hR, rf_30_1 hR, rf_33_0 hR, rf_33_1 hR, rf_36_0 hR, rf_36_1 hR, rf_39_0 hR, rf_39_1 hR, rf_42_0 hR, rf_42_1 hR, rf_45_0 hR, rf_45_1 hR, rf_48_0 hR, rf_48_1 hR, rf_51_0 hR, rf_51_1 hR, rf_51_6 hR, rf_51_7 hR, rf_h_3 hR, rf_d_3 hR, rf_h_4 hR, rf_d_4 hR, rf_h_5 hR, rf_d_5 hR, rf_h_6 hR, rf_d_6 hR, rf_h_7 hR, rf_d_7 hR, rf_h_8 hR, rf_d_8 hR, rf_h_9 hR, rf_d_9 hR, rf_12_0 hR, rf_3_1 hR, kn_0, kn_1, kn_2, kn_3, kn_4, kn_5, kn_6, kn_7, kn_8, kn_9, kn_10, kn_11, kn_12, kn_13, kn_14, kn_15, kn_16, kn_17, kn_18, kn_19, kn_20, kn_21, kn_22, kn_23, kn_24, kn_25, kn_26, kn_27, kn_28, kn_29, kn_30, kn_31, kn_32, kn_33, kn_34, kn_35, kn_36, kn_37, kn_38, kn_39, kn_40, kn_41, kn_42, kn_43, kn_44, kn_45, kn_46, kn_47, kn_48, kn_49, kn_50, kn_51, kn_52, kn_53, kn_54, kn_55, ln_2, ln_5, ln_6, ln_7, ln_8, ln_9, ln_10, ln_11, ln_14, ln_15, ln_16, ln_17, ln_18, ln_19, ln_20, ln_22, ln_23, ln_26, ln_28, ln_29, ln_31, ln_32, ln_34, ln_35, ln_37, ln_38, ln_40, ln_41, ln_43, ln_44, ln_46, ln_47, ln_49, ln_50, ln_52, kn_h hR, lt_h hR, kn_h1 hR, ln_h1 hR, lt_h1 hR, kn_h2 hR, ln_h2 hR, lt_h2 hR, kn_h3 hR, ln_h3 hR, lt_h3 hR, kn_h4 hR, ln_h4 hR, lt_h4 hR, kn_h5 hR, ln_h5 hR, lt_h5 hR, kn_h6 hR, ln_h6 hR, lt_h6 hR, kn_h7 hR, ln_h7 hR, lt_h7 hR, kn_d hR, lt_d hR, kn_d1 hR, ln_d1 hR, lt_d1 hR, kn_d2 hR, ln_d2 hR, lt_d2 hR, kn_d3 hR, ln_d3 hR, lt_d3 hR, kn_d4 hR, ln_d4 hR, lt_d4 hR, kn_d5 hR, ln_d5 hR, lt_d5 hR, kn_d6 hR, ln_d6 hR, lt_d6 hR, kn_d7 hR, ln_d7 hR, lt_d7 hR, va_rf_some, push_s, push_n, nb0, nb1, nbb, Nat.reduceLT, hn, if_true, c_has (show b < 32 by omega), hbb, b2i_0]
    by_cases c : dst I nr w a i b = -4
    · rw [decide_eq_true c, Bool.not_true, if_pos rfl]
      have hv : ∀ t, t < 32 → bt (so (fun t => anyb (fun k => bt acc (k / 4) && pas I w k && decide (I 64 k = nI t)) 24) 32) t = anyb (fun k => bt acc (k / 4) && pas I w k && decide (I 64 k = nI t)) 24 := fun t ht => by
        rw [so_bt _ (by decide) t ht, decide_eq_true ht, Bool.true_and]
      have hbs := fun {Q} => c_besides_loop (E := E) (Q := Q) (J := J) hR hC (s := acc) (w := w) 24 0 0 tm_dum (by omega) (fun t _ => by rw [b_0]; rfl) _ hv
      have e1 : (b2i w = 1) = (w = true) := by cases w <;> decide
      have hb2 : ∀ Q, tEv E 209 0 [.ref 12, .int acc, .int (b2i w), tm_dum, tm_dum, tm_dum] [] (mS I J R) Q = Q (some (so (fun t => anyb (fun k => bt acc (k / 4) && pas I w k && decide (I 64 k = nI t)) 24) 32)) (mS I J R) := fun Q => by
        simp only [e_209_0, e_209_1, e_209_2, e_209_3]
        exact hbs
      have st : ∀ t, t < 32 → bt (acc ||| so (fun t => anyb (fun k => bt acc (k / 4) && pas I w k && decide (I 64 k = nI t)) 24) 32) t = !decide (dst I nr w a (i + 1) t = -4) := fun t ht => by
        rw [b_or, hv t ht, hac t ht, dst_round hC.2.1 h6 ha (by omega) (by omega)]
        congr 1
        exact anyb_cong (fun k hk => by rw [hac (k / 4) (by omega)])
      have no2 : ∀ k, k < i + 1 → dst I nr w a k b = -4 := fun k hk => by
        by_cases q : k = i
        · rw [q]; exact c
        · exact hno k (by omega)
      cases w with
      | true =>
        have hb3 := hb2
        rw [show b2i true = 1 from rfl] at hb3
        simp only [show b2i true = 1 from rfl, if_true, e_210_0, e_210_1, e_210_4, e_210_5, e_210_8, e_210_11, e_210_12, e_210_15, e_210_16, e_210_19, e_210_22, e_210_23, e_210_26, e_210_27, e_210_28, e_210_31, e_210_32, e_210_33, e_210_34, e_210_35, e_210_36, e_210_38, e_210_39, e_210_43, e_210_45, e_210_48, e_210_50, e_210_51, e_210_54, e_210_57, e_210_59, e_210_60, e_210_62, e_210_63, e_210_66, e_210_68, e_210_69, e_210_70, e_210_73, e_210_74, e_210_77, e_210_78, e_210_81, e_210_82, e_210_84, e_210_87, e_210_90, e_210_92, rf_0_0 hR, rf_0_1 hR, rf_0_2 hR, rf_0_3 hR, rf_0_4 hR, rf_0_5 hR, rf_0_6 hR, rf_1_0 hR, rf_3_0 hR, rf_3_2 hR, rf_4_3 hR, rf_4_4 hR, rf_4_5 hR, rf_4_6 hR, rf_4_7 hR, rf_4_8 hR, rf_4_9 hR, rf_12_1 hR, rf_13_3 hR, rf_13_4 hR, rf_13_5 hR, rf_13_6 hR, rf_13_7 hR, rf_13_8 hR, rf_13_9 hR, rf_21_0 hR, rf_21_1 hR, rf_24_0 hR, rf_25_0 hR, rf_26_0 hR, rf_26_1 hR, rf_26_2 hR, rf_26_3 hR, rf_26_4 hR, rf_26_5 hR, rf_26_6 hR, rf_26_7 hR, rf_27_0 hR, rf_27_1 hR, rf_30_0 hR, rf_30_1 hR, rf_33_0 hR, rf_33_1 hR, rf_36_0 hR, rf_36_1 hR, rf_39_0 hR, rf_39_1 hR, rf_42_0 hR, rf_42_1 hR, rf_45_0 hR, rf_45_1 hR, rf_48_0 hR, rf_48_1 hR, rf_51_0 hR, rf_51_1 hR, rf_51_6 hR, rf_51_7 hR, rf_h_3 hR, rf_d_3 hR, rf_h_4 hR, rf_d_4 hR, rf_h_5 hR, rf_d_5 hR, rf_h_6 hR, rf_d_6 hR, rf_h_7 hR, rf_d_7 hR, rf_h_8 hR, rf_d_8 hR, rf_h_9 hR, rf_d_9 hR, rf_12_0 hR, rf_3_1 hR, kn_0, kn_1, kn_2, kn_3, kn_4, kn_5, kn_6, kn_7, kn_8, kn_9, kn_10, kn_11, kn_12, kn_13, kn_14, kn_15, kn_16, kn_17, kn_18, kn_19, kn_20, kn_21, kn_22, kn_23, kn_24, kn_25, kn_26, kn_27, kn_28, kn_29, kn_30, kn_31, kn_32, kn_33, kn_34, kn_35, kn_36, kn_37, kn_38, kn_39, kn_40, kn_41, kn_42, kn_43, kn_44, kn_45, kn_46, kn_47, kn_48, kn_49, kn_50, kn_51, kn_52, kn_53, kn_54, kn_55, ln_2, ln_5, ln_6, ln_7, ln_8, ln_9, ln_10, ln_11, ln_14, ln_15, ln_16, ln_17, ln_18, ln_19, ln_20, ln_22, ln_23, ln_26, ln_28, ln_29, ln_31, ln_32, ln_34, ln_35, ln_37, ln_38, ln_40, ln_41, ln_43, ln_44, ln_46, ln_47, ln_49, ln_50, ln_52, kn_h hR, lt_h hR, kn_h1 hR, ln_h1 hR, lt_h1 hR, kn_h2 hR, ln_h2 hR, lt_h2 hR, kn_h3 hR, ln_h3 hR, lt_h3 hR, kn_h4 hR, ln_h4 hR, lt_h4 hR, kn_h5 hR, ln_h5 hR, lt_h5 hR, kn_h6 hR, ln_h6 hR, lt_h6 hR, kn_h7 hR, ln_h7 hR, lt_h7 hR, kn_d hR, lt_d hR, kn_d1 hR, ln_d1 hR, lt_d1 hR, kn_d2 hR, ln_d2 hR, lt_d2 hR, kn_d3 hR, ln_d3 hR, lt_d3 hR, kn_d4 hR, ln_d4 hR, lt_d4 hR, kn_d5 hR, ln_d5 hR, lt_d5 hR, kn_d6 hR, ln_d6 hR, lt_d6 hR, kn_d7 hR, ln_d7 hR, lt_d7 hR, va_rf_some, push_s, push_n, nb0, nb1, nbb, Nat.reduceLT, hb3, nI_1]
        exact ih _ st no2
      | false =>
        have hb3 := hb2
        rw [show b2i false = 0 from rfl] at hb3
        simp only [show b2i false = 0 from rfl, show ((0 : Int32) = 1) = False from eq_false (by decide), if_false, e_210_0, e_210_1, e_210_4, e_210_5, e_210_8, e_210_11, e_210_12, e_210_15, e_210_16, e_210_19, e_210_22, e_210_23, e_210_26, e_210_27, e_210_28, e_210_31, e_210_32, e_210_33, e_210_34, e_210_35, e_210_36, e_210_38, e_210_39, e_210_43, e_210_45, e_210_48, e_210_50, e_210_51, e_210_54, e_210_57, e_210_59, e_210_60, e_210_62, e_210_63, e_210_66, e_210_68, e_210_69, e_210_70, e_210_73, e_210_74, e_210_77, e_210_78, e_210_81, e_210_82, e_210_84, e_210_87, e_210_90, e_210_92, rf_0_0 hR, rf_0_1 hR, rf_0_2 hR, rf_0_3 hR, rf_0_4 hR, rf_0_5 hR, rf_0_6 hR, rf_1_0 hR, rf_3_0 hR, rf_3_2 hR, rf_4_3 hR, rf_4_4 hR, rf_4_5 hR, rf_4_6 hR, rf_4_7 hR, rf_4_8 hR, rf_4_9 hR, rf_12_1 hR, rf_13_3 hR, rf_13_4 hR, rf_13_5 hR, rf_13_6 hR, rf_13_7 hR, rf_13_8 hR, rf_13_9 hR, rf_21_0 hR, rf_21_1 hR, rf_24_0 hR, rf_25_0 hR, rf_26_0 hR, rf_26_1 hR, rf_26_2 hR, rf_26_3 hR, rf_26_4 hR, rf_26_5 hR, rf_26_6 hR, rf_26_7 hR, rf_27_0 hR, rf_27_1 hR, rf_30_0 hR, rf_30_1 hR, rf_33_0 hR, rf_33_1 hR, rf_36_0 hR, rf_36_1 hR, rf_39_0 hR, rf_39_1 hR, rf_42_0 hR, rf_42_1 hR, rf_45_0 hR, rf_45_1 hR, rf_48_0 hR, rf_48_1 hR, rf_51_0 hR, rf_51_1 hR, rf_51_6 hR, rf_51_7 hR, rf_h_3 hR, rf_d_3 hR, rf_h_4 hR, rf_d_4 hR, rf_h_5 hR, rf_d_5 hR, rf_h_6 hR, rf_d_6 hR, rf_h_7 hR, rf_d_7 hR, rf_h_8 hR, rf_d_8 hR, rf_h_9 hR, rf_d_9 hR, rf_12_0 hR, rf_3_1 hR, kn_0, kn_1, kn_2, kn_3, kn_4, kn_5, kn_6, kn_7, kn_8, kn_9, kn_10, kn_11, kn_12, kn_13, kn_14, kn_15, kn_16, kn_17, kn_18, kn_19, kn_20, kn_21, kn_22, kn_23, kn_24, kn_25, kn_26, kn_27, kn_28, kn_29, kn_30, kn_31, kn_32, kn_33, kn_34, kn_35, kn_36, kn_37, kn_38, kn_39, kn_40, kn_41, kn_42, kn_43, kn_44, kn_45, kn_46, kn_47, kn_48, kn_49, kn_50, kn_51, kn_52, kn_53, kn_54, kn_55, ln_2, ln_5, ln_6, ln_7, ln_8, ln_9, ln_10, ln_11, ln_14, ln_15, ln_16, ln_17, ln_18, ln_19, ln_20, ln_22, ln_23, ln_26, ln_28, ln_29, ln_31, ln_32, ln_34, ln_35, ln_37, ln_38, ln_40, ln_41, ln_43, ln_44, ln_46, ln_47, ln_49, ln_50, ln_52, kn_h hR, lt_h hR, kn_h1 hR, ln_h1 hR, lt_h1 hR, kn_h2 hR, ln_h2 hR, lt_h2 hR, kn_h3 hR, ln_h3 hR, lt_h3 hR, kn_h4 hR, ln_h4 hR, lt_h4 hR, kn_h5 hR, ln_h5 hR, lt_h5 hR, kn_h6 hR, ln_h6 hR, lt_h6 hR, kn_h7 hR, ln_h7 hR, lt_h7 hR, kn_d hR, lt_d hR, kn_d1 hR, ln_d1 hR, lt_d1 hR, kn_d2 hR, ln_d2 hR, lt_d2 hR, kn_d3 hR, ln_d3 hR, lt_d3 hR, kn_d4 hR, ln_d4 hR, lt_d4 hR, kn_d5 hR, ln_d5 hR, lt_d5 hR, kn_d6 hR, ln_d6 hR, lt_d6 hR, kn_d7 hR, ln_d7 hR, lt_d7 hR, va_rf_some, push_s, push_n, nb0, nb1, nbb, Nat.reduceLT, hb3, nI_1]
        exact ih _ st no2
    · rw [decide_eq_false c, Bool.not_false, if_neg (by decide)]
      congr 2
      rcases dst_cases I nr w a i b with e | ⟨m, h1, h2⟩
      · exact absurd e c
      · have h3 := dst_m hb (by omega) h1 h2
        have h4 := dst_at (by omega) h1 h2
        by_cases q : m = i
        · rw [dst_keep c nr (by omega), h2, q]
        · rw [hno m (by omega)] at h4
          exact absurd h4.symm (nI_n4 (by omega))
theorem c_steps_1 (hR : tRef h d R) (hC : RR I h nr nt y pl) {a b : Nat} (ha : a < nr) (hb : b < nr) {w : Bool} : tEv E 210 0 [.ref 0, .int (nI a), .int (nI b), .int (b2i w), tm_dum, tm_dum] [] (mS I J R) Q = Q (some (dst I nr w a nr b)) (mS I J R) := by
  have h6 := hC.1.2.2.1
  have ea : isB (nI a) nr = true := by rw [isB_nI (by omega) (by omega), decide_eq_true ha]
  have eb : isB (nI b) nr = true := by rw [isB_nI (by omega) (by omega), decide_eq_true hb]
  have w0 : (b2i w < 0) = False := by cases w <;> decide
  have w1 : (1 < b2i w) = False := by cases w <;> decide
  have lp := fun {Q} => c_steps_loop (E := E) (Q := Q) (J := J) hR hC ha hb (w := w) (l1 := .int (nI a)) 6 0 ((1 : Int32) <<< (nI a &&& 31)) (by omega) (fun t ht => by
    rw [b_one (show a < 32 by omega) ht, dst]
    by_cases c : t = a
    · rw [if_pos c, decide_eq_true c]; rfl
    · rw [if_neg c, decide_eq_false c]; rfl) (fun k hk => by omega)
  simp only [e_210_0, e_210_1, e_210_4, e_210_5, e_210_8, e_210_11, e_210_12, e_210_15, e_210_16, e_210_19, e_210_22, e_210_23, e_210_26, e_210_27, e_210_28, e_210_31, e_210_32, e_210_33, e_210_34, e_210_35, e_210_36, e_210_38, e_210_39, rf_0_0 hR, rf_0_1 hR, rf_0_2 hR, rf_0_3 hR, rf_0_4 hR, rf_0_5 hR, rf_0_6 hR, rf_1_0 hR, rf_3_0 hR, rf_3_2 hR, rf_4_3 hR, rf_4_4 hR, rf_4_5 hR, rf_4_6 hR, rf_4_7 hR, rf_4_8 hR, rf_4_9 hR, rf_12_1 hR, rf_13_3 hR, rf_13_4 hR, rf_13_5 hR, rf_13_6 hR, rf_13_7 hR, rf_13_8 hR, rf_13_9 hR, rf_21_0 hR, rf_21_1 hR, rf_24_0 hR, rf_25_0 hR, rf_26_0 hR, rf_26_1 hR, rf_26_2 hR, rf_26_3 hR, rf_26_4 hR, rf_26_5 hR, rf_26_6 hR, rf_26_7 hR, rf_27_0 hR, rf_27_1 hR, rf_30_0 hR, rf_30_1 hR, rf_33_0 hR, rf_33_1 hR, rf_36_0 hR, rf_36_1 hR, rf_39_0 hR, rf_39_1 hR, rf_42_0 hR, rf_42_1 hR, rf_45_0 hR, rf_45_1 hR, rf_48_0 hR, rf_48_1 hR, rf_51_0 hR, rf_51_1 hR, rf_51_6 hR, rf_51_7 hR, rf_h_3 hR, rf_d_3 hR, rf_h_4 hR, rf_d_4 hR, rf_h_5 hR, rf_d_5 hR, rf_h_6 hR, rf_d_6 hR, rf_h_7 hR, rf_d_7 hR, rf_h_8 hR, rf_d_8 hR, rf_h_9 hR, rf_d_9 hR, rf_12_0 hR, rf_3_1 hR, kn_0, kn_1, kn_2, kn_3, kn_4, kn_5, kn_6, kn_7, kn_8, kn_9, kn_10, kn_11, kn_12, kn_13, kn_14, kn_15, kn_16, kn_17, kn_18, kn_19, kn_20, kn_21, kn_22, kn_23, kn_24, kn_25, kn_26, kn_27, kn_28, kn_29, kn_30, kn_31, kn_32, kn_33, kn_34, kn_35, kn_36, kn_37, kn_38, kn_39, kn_40, kn_41, kn_42, kn_43, kn_44, kn_45, kn_46, kn_47, kn_48, kn_49, kn_50, kn_51, kn_52, kn_53, kn_54, kn_55, ln_2, ln_5, ln_6, ln_7, ln_8, ln_9, ln_10, ln_11, ln_14, ln_15, ln_16, ln_17, ln_18, ln_19, ln_20, ln_22, ln_23, ln_26, ln_28, ln_29, ln_31, ln_32, ln_34, ln_35, ln_37, ln_38, ln_40, ln_41, ln_43, ln_44, ln_46, ln_47, ln_49, ln_50, ln_52, kn_h hR, lt_h hR, kn_h1 hR, ln_h1 hR, lt_h1 hR, kn_h2 hR, ln_h2 hR, lt_h2 hR, kn_h3 hR, ln_h3 hR, lt_h3 hR, kn_h4 hR, ln_h4 hR, lt_h4 hR, kn_h5 hR, ln_h5 hR, lt_h5 hR, kn_h6 hR, ln_h6 hR, lt_h6 hR, kn_h7 hR, ln_h7 hR, lt_h7 hR, kn_d hR, lt_d hR, kn_d1 hR, ln_d1 hR, lt_d1 hR, kn_d2 hR, ln_d2 hR, lt_d2 hR, kn_d3 hR, ln_d3 hR, lt_d3 hR, kn_d4 hR, ln_d4 hR, lt_d4 hR, kn_d5 hR, ln_d5 hR, lt_d5 hR, kn_d6 hR, ln_d6 hR, lt_d6 hR, kn_d7 hR, ln_d7 hR, lt_d7 hR, va_rf_some, push_s, push_n, nb0, nb1, nbb, Nat.reduceLT, c_hasRoom hR hC, ea, eb, b2i_0, Bool.true_eq_false, if_false, w0, w1]
  exact lp
theorem c_steps_0 (hR : tRef h d R) (hC : RR I h nr nt y pl) {x z w : Int32} (hb : isB x nr = false ∨ isB z nr = false ∨ isB w 2 = false) : tEv E 210 0 [.ref 0, .int x, .int z, .int w, tm_dum, tm_dum] [] (mS I J R) Q = Q (some (-1)) (mS I J R) := by
  simp only [e_210_0, e_210_1, e_210_4, e_210_5, e_210_8, e_210_11, e_210_12, e_210_15, e_210_16, e_210_19, e_210_22, e_210_23, e_210_26, e_210_27, e_210_28, e_210_31, e_210_32, rf_0_0 hR, rf_0_1 hR, rf_0_2 hR, rf_0_3 hR, rf_0_4 hR, rf_0_5 hR, rf_0_6 hR, rf_1_0 hR, rf_3_0 hR, rf_3_2 hR, rf_4_3 hR, rf_4_4 hR, rf_4_5 hR, rf_4_6 hR, rf_4_7 hR, rf_4_8 hR, rf_4_9 hR, rf_12_1 hR, rf_13_3 hR, rf_13_4 hR, rf_13_5 hR, rf_13_6 hR, rf_13_7 hR, rf_13_8 hR, rf_13_9 hR, rf_21_0 hR, rf_21_1 hR, rf_24_0 hR, rf_25_0 hR, rf_26_0 hR, rf_26_1 hR, rf_26_2 hR, rf_26_3 hR, rf_26_4 hR, rf_26_5 hR, rf_26_6 hR, rf_26_7 hR, rf_27_0 hR, rf_27_1 hR, rf_30_0 hR, rf_30_1 hR, rf_33_0 hR, rf_33_1 hR, rf_36_0 hR, rf_36_1 hR, rf_39_0 hR, rf_39_1 hR, rf_42_0 hR, rf_42_1 hR, rf_45_0 hR, rf_45_1 hR, rf_48_0 hR, rf_48_1 hR, rf_51_0 hR, rf_51_1 hR, rf_51_6 hR, rf_51_7 hR, rf_h_3 hR, rf_d_3 hR, rf_h_4 hR, rf_d_4 hR, rf_h_5 hR, rf_d_5 hR, rf_h_6 hR, rf_d_6 hR, rf_h_7 hR, rf_d_7 hR, rf_h_8 hR, rf_d_8 hR, rf_h_9 hR, rf_d_9 hR, rf_12_0 hR, rf_3_1 hR, kn_0, kn_1, kn_2, kn_3, kn_4, kn_5, kn_6, kn_7, kn_8, kn_9, kn_10, kn_11, kn_12, kn_13, kn_14, kn_15, kn_16, kn_17, kn_18, kn_19, kn_20, kn_21, kn_22, kn_23, kn_24, kn_25, kn_26, kn_27, kn_28, kn_29, kn_30, kn_31, kn_32, kn_33, kn_34, kn_35, kn_36, kn_37, kn_38, kn_39, kn_40, kn_41, kn_42, kn_43, kn_44, kn_45, kn_46, kn_47, kn_48, kn_49, kn_50, kn_51, kn_52, kn_53, kn_54, kn_55, ln_2, ln_5, ln_6, ln_7, ln_8, ln_9, ln_10, ln_11, ln_14, ln_15, ln_16, ln_17, ln_18, ln_19, ln_20, ln_22, ln_23, ln_26, ln_28, ln_29, ln_31, ln_32, ln_34, ln_35, ln_37, ln_38, ln_40, ln_41, ln_43, ln_44, ln_46, ln_47, ln_49, ln_50, ln_52, kn_h hR, lt_h hR, kn_h1 hR, ln_h1 hR, lt_h1 hR, kn_h2 hR, ln_h2 hR, lt_h2 hR, kn_h3 hR, ln_h3 hR, lt_h3 hR, kn_h4 hR, ln_h4 hR, lt_h4 hR, kn_h5 hR, ln_h5 hR, lt_h5 hR, kn_h6 hR, ln_h6 hR, lt_h6 hR, kn_h7 hR, ln_h7 hR, lt_h7 hR, kn_d hR, lt_d hR, kn_d1 hR, ln_d1 hR, lt_d1 hR, kn_d2 hR, ln_d2 hR, lt_d2 hR, kn_d3 hR, ln_d3 hR, lt_d3 hR, kn_d4 hR, ln_d4 hR, lt_d4 hR, kn_d5 hR, ln_d5 hR, lt_d5 hR, kn_d6 hR, ln_d6 hR, lt_d6 hR, kn_d7 hR, ln_d7 hR, lt_d7 hR, va_rf_some, push_s, push_n, nb0, nb1, nbb, Nat.reduceLT, c_hasRoom hR hC, b2i_0]
  cases c1 : isB x nr with
  | false => rw [if_pos rfl]
  | true =>
    rw [if_neg (by decide)]
    cases c2 : isB z nr with
    | false => rw [if_pos rfl]
    | true =>
      rw [if_neg (by decide)]
      rcases hb with q | q | q
      · rw [q] at c1; cases c1
      · rw [q] at c2; cases c2
      · have hq := of_decide_eq_false q
        by_cases c3 : w < 0
        · rw [if_pos c3]
        · rw [if_neg c3, if_pos]
          rw [Int32.lt_iff_toInt_lt, show (1 : Int32).toInt = 1 from rfl]
          rw [Int32.lt_iff_toInt_lt, show (0 : Int32).toInt = 0 from rfl] at c3
          rw [Int32.le_iff_toInt_le, Int32.lt_iff_toInt_lt, show (nI 2).toInt = 2 from rfl, show (0 : Int32).toInt = 0 from rfl] at hq
          omega
end D6
