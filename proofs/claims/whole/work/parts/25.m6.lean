/-! ===== the model: phrases, partners, what is resolved ===== -/
/-- how many -/
def ct (p : Nat → Bool) : Nat → Nat
  | 0 => 0
  | n + 1 => ct p n + (if p n = true then 1 else 0)
theorem ct_le (p : Nat → Bool) : ∀ n, ct p n ≤ n
  | 0 => Nat.le_refl 0
  | n + 1 => by
    have := ct_le p n
    rw [ct]
    split <;> omega
theorem ct_0 {p : Nat → Bool} : ∀ {n : Nat}, ct p n = 0 ↔ anyb p n = false
  | 0 => ⟨fun _ => rfl, fun _ => rfl⟩
  | n + 1 => by
    rw [ct, anyb]
    have ih := ct_0 (p := p) (n := n)
    cases h : p n with
    | true => simp
    | false => simp [ih]
theorem ct_cong {p q : Nat → Bool} : ∀ {n : Nat}, (∀ k, k < n → p k = q k) → ct p n = ct q n
  | 0, _ => rfl
  | n + 1, h => by rw [ct, ct, ct_cong (fun k hk => h k (by omega)), h n (by omega)]
theorem ct_more {p : Nat → Bool} {n : Nat} : ∀ m, (∀ i, n ≤ i → i < n + m → p i = false) → ct p (n + m) = ct p n
  | 0, _ => rfl
  | m + 1, h => by
    rw [← Nat.add_assoc, ct, ct_more m (fun i h1 h2 => h i h1 (by omega)), h (n + m) (by omega) (by omega)]
    rfl
/-- the lowest -/
def low (p : Nat → Bool) : Nat → Nat
  | 0 => 0
  | n + 1 => if anyb p n = true then low p n else n
theorem low_spec {p : Nat → Bool} : ∀ {n : Nat}, anyb p n = true → low p n < n ∧ p (low p n) = true ∧ ∀ j, j < low p n → p j = false
  | n + 1, h => by
    rw [low]
    by_cases h1 : anyb p n = true
    · rw [if_pos h1]
      have ih := low_spec h1
      exact ⟨by omega, ih.2.1, ih.2.2⟩
    · rw [if_neg h1]
      rw [anyb] at h
      refine ⟨by omega, by simpa [h1] using h, fun j hj => ?_⟩
      cases h2 : p j with
      | false => rfl
      | true => exact absurd (anyb_iff.mpr ⟨j, hj, h2⟩) h1
theorem low_cong {p q : Nat → Bool} : ∀ {n : Nat}, (∀ k, k < n → p k = q k) → low p n = low q n
  | 0, _ => rfl
  | n + 1, h => by rw [low, low, anyb_cong (fun k hk => h k (by omega)), low_cong (fun k hk => h k (by omega))]
theorem low_uniq {p : Nat → Bool} {n k : Nat} (h : anyb p n = true) (hk : k < n) (h1 : p k = true) (h2 : ∀ j, j < k → p j = false) : low p n = k := by
  obtain ⟨a, b, c⟩ := low_spec h
  rcases Nat.lt_trichotomy (low p n) k with q | q | q
  · rw [h2 _ q] at b; cases b
  · exact q
  · rw [c _ q] at h1; cases h1
theorem sm_ct (p : Nat → Bool) : ∀ n, sm (fun k => b2i (p k)) n = nI (ct p n)
  | 0 => rfl
  | n + 1 => by
    rw [sm, sm_ct p n, ct]
    cases p n
    · exact Int32.add_zero _
    · exact nI_1 _
theorem cnt_so {p : Nat → Bool} {n : Nat} (hn : n ≤ 16) : cnt (so p n) = nI (ct p n) := by
  unfold cnt
  rw [sm_ct]
  congr 1
  rw [show 16 = n + (16 - n) by omega, ct_more]
  · exact ct_cong (fun k hk => by rw [so_bt _ (by omega) k (by omega), decide_eq_true hk, Bool.true_and])
  · intro i h1 h2
    rw [so_bt _ (by omega) i (by omega), decide_eq_false (by omega), Bool.false_and]
theorem anyb_so {p : Nat → Bool} {n : Nat} (hn : n ≤ 16) : anyb (bt (so p n)) 16 = anyb p n := by
  cases h : anyb p n with
  | true =>
    obtain ⟨k, h1, h2⟩ := anyb_iff.mp h
    exact anyb_iff.mpr ⟨k, by omega, by rw [so_bt _ (by omega) k (by omega), h2, decide_eq_true h1]; rfl⟩
  | false =>
    cases h2 : anyb (bt (so p n)) 16 with
    | false => rfl
    | true =>
      obtain ⟨k, h3, h4⟩ := anyb_iff.mp h2
      rw [so_bt _ (by omega) k (by omega)] at h4
      simp only [Bool.and_eq_true, decide_eq_true_eq] at h4
      rw [anyb_iff.mpr ⟨k, h4.1, h4.2⟩] at h
      cases h
theorem low_so {p : Nat → Bool} {n : Nat} (hn : n ≤ 16) (h : anyb p n = true) : low (bt (so p n)) 16 = low p n := by
  obtain ⟨a, b, c⟩ := low_spec h
  refine low_uniq (by rw [anyb_so hn, h]) (by omega) ?_ (fun j hj => ?_)
  · rw [so_bt _ (by omega) _ (by omega), b, decide_eq_true a]; rfl
  · rw [so_bt _ (by omega) _ (by omega), c j hj, Bool.and_false]
def mso (I : Nat → Nat → Int32) (k t : Nat) : Bool := (decide (I 81 k = -4) || decide (I 59 t = I 81 k)) && (decide (I 80 k = -4) || decide (I 60 t = I 80 k))
def mtold (I : Nat → Nat → Int32) (k t : Nat) : Bool := if I 79 k = 0 then mso I k t else decide (nI t = I 57 50)
def mparb (I : Nat → Nat → Int32) (pl : Nat → Nat) (nt a x y : Nat) : Bool := (if of2 a = true then bt (I 82 1) y else y == x) && decide (mwhy I pl nt a x y = 0)
theorem mwhy_1 (I : Nat → Nat → Int32) (pl : Nat → Nat) {nt a x : Nat} (ha : a < 12) (h : of2 a = false) (y z : Nat) : mwhy I pl nt a x y = mwhy I pl nt a x z := by
  unfold of2 at h
  simp only [Bool.or_eq_false_iff, beq_eq_false_iff_ne, ne_eq] at h
  unfold mwhy
  rw [if_neg h.1.1.1.1, if_neg h.1.1.1.1, if_neg h.1.1.1.2, if_neg h.1.1.1.2, if_neg h.1.1.2, if_neg h.1.1.2, if_neg h.1.2, if_neg h.1.2]
  split
  · rfl
  · split
    · rfl
    · split
      · rfl
      · split
        · rfl
        · split
          · rfl
          · split
            · rfl
            · split
              · rfl
              · omega
section M6
variable {E : tm_Env} {Q : Option Int32 → tm_St → Prop} {I : Nat → Nat → Int32} {J : Nat → Nat → Int64} {R : Nat → Nat → Option Nat} {h d : Nat} {nr nt y : Nat} {pl : Nat → Nat}
theorem m_isOfTwo {S : tm_St} {a : Nat} (ha : a < 100) : tEv E 156 0 [.int (nI a)] [] S Q = Q (some (b2i (of2 a))) S := by
  have e2 : (nI a = 2) = (a = 2) := propext (nI_eq (b := 2) (by omega) (by omega))
  have e3 : (nI a = 3) = (a = 3) := propext (nI_eq (b := 3) (by omega) (by omega))
  have e6 : (nI a = 6) = (a = 6) := propext (nI_eq (b := 6) (by omega) (by omega))
  have e7 : (nI a = 7) = (a = 7) := propext (nI_eq (b := 7) (by omega) (by omega))
  have e11 : (nI a = 11) = (a = 11) := propext (nI_eq (b := 11) (by omega) (by omega))
  simp only [e_156_0, e_156_1, e_156_2, e_156_5, e_156_6, e_156_7, e_156_10, e_156_11, e_156_13, e_156_16, e_156_17, e_156_19, e_156_22, e_156_23, e_156_25, e_156_28, e_156_29, e_156_32, e_156_33, va_rf_some, push_s, push_n, nb0, nb1, nbb, Nat.reduceLT, e2, e3, e6, e7, e11]
  unfold of2
  by_cases h2 : a = 2
  · simp [h2, b2i]
  · by_cases h3 : a = 3
    · simp [h3, b2i]
    · by_cases h6 : a = 6
      · simp [h6, b2i]
      · by_cases h7 : a = 7
        · simp [h7, b2i]
        · by_cases h11 : a = 11
          · simp [h11, b2i]
          · simp [h2, h3, h6, h7, h11, b2i]
theorem m_isSo (hR : tRef h d R) {t k : Nat} (ht : t < 16) (hk : k < 2) : tEv E 154 0 [.ref 56, .int (nI t), .int (nI k)] [] (mS I J R) Q = Q (some (b2i (mso I k t))) (mS I J R) := by
  have h1 := inb_nI (j := t) (n := 16) (by omega) (by decide)
  have h2 := nI_cl (n := t) (by omega)
  have h3 := inb_nI (j := k) (n := 2) (by omega) (by decide)
  have h4 := nI_cl (n := k) (by omega)
  simp only [e_154_0, e_154_1, e_154_4, e_154_5, e_154_6, e_154_8, e_154_11, e_154_12, e_154_15, e_154_16, e_154_17, e_154_18, e_154_21, e_154_22, e_154_23, e_154_26, e_154_27, e_154_30, e_154_31, e_154_32, e_154_34, e_154_37, e_154_38, e_154_41, e_154_42, e_154_43, e_154_44, e_154_47, e_154_48, e_154_49, e_154_52, e_154_53, e_154_56, e_154_57, rf_56_0 hR, rf_56_4 hR, rf_56_5 hR, rf_56_6 hR, rf_56_7 hR, rf_56_8 hR, rf_56_9 hR, rf_56_10 hR, rf_56_11 hR, rf_56_12 hR, rf_56_14 hR, rf_56_15 hR, rf_56_19 hR, rf_56_20 hR, rf_56_21 hR, rf_56_22 hR, rf_56_23 hR, rf_56_24 hR, rf_56_25 hR, rf_56_26 hR, rf_56_27 hR, rf_56_29 hR, rf_56_32 hR, rf_56_33 hR, rf_56_34 hR, rf_56_37 hR, rf_56_38 hR, kn_56, kn_57, kn_58, kn_59, kn_60, kn_61, kn_62, kn_63, kn_64, kn_65, kn_66, kn_67, kn_68, kn_69, kn_70, kn_71, kn_72, kn_73, kn_74, kn_75, kn_76, kn_77, kn_78, kn_79, kn_80, kn_81, kn_82, kn_83, ln_57, ln_58, ln_59, ln_60, ln_61, ln_62, ln_63, ln_64, ln_65, ln_66, ln_67, ln_68, ln_69, ln_70, ln_71, ln_72, ln_73, ln_74, ln_75, ln_76, ln_77, ln_78, ln_79, ln_80, ln_81, ln_82, ln_83, va_rf_some, push_s, push_n, nb0, nb1, nbb, Nat.reduceLT, h1, h2, h3, h4]
  unfold mso
  by_cases c1 : I 81 k = -4 <;> by_cases c2 : I 59 t = I 81 k <;> by_cases c3 : I 80 k = -4 <;> by_cases c4 : I 60 t = I 80 k <;> simp [c1, c2, c3, c4, b2i]
theorem m_told_loop (hR : tRef h d R) (hW : mW I nr nt pl) {k : Nat} (hk : k < 2) {s : Int32} : ∀ j i acc l5, i + j = nt → acc = so (fun t => mtold I k t && bt s t) i → tEv E 155 5 [.ref 56, .int (nI k), .int s, .int acc, .int (nI i), l5] [] (mS I J R) Q = Q (some (so (fun t => mtold I k t && bt s t) nt)) (mS I J R)
  | 0, i, acc, l5, hj, ha => by
    have h16 := hW.2.2.2.1
    have hn : (nI i < nI nt) = False := by
      rw [show i = nt by omega]
      exact eq_false Int32.lt_irrefl
    rw [e_155_5]
    simp only [e_155_0, e_155_1, e_155_2, e_155_3, e_155_7, e_155_8, e_155_11, e_155_14, e_155_15, e_155_18, e_155_19, e_155_20, e_155_23, e_155_25, e_155_26, e_155_29, e_155_31, e_155_32, e_155_35, e_155_36, e_155_39, e_155_40, e_155_43, e_155_44, e_155_46, e_155_47, e_155_50, e_155_52, e_155_53, e_155_55, e_155_58, e_155_59, e_155_61, e_155_64, e_155_67, e_155_68, e_155_70, e_155_71, e_155_74, e_155_75, e_155_76, e_155_77, e_155_80, e_155_83, e_155_84, rf_56_0 hR, rf_56_4 hR, rf_56_5 hR, rf_56_6 hR, rf_56_7 hR, rf_56_8 hR, rf_56_9 hR, rf_56_10 hR, rf_56_11 hR, rf_56_12 hR, rf_56_14 hR, rf_56_15 hR, rf_56_19 hR, rf_56_20 hR, rf_56_21 hR, rf_56_22 hR, rf_56_23 hR, rf_56_24 hR, rf_56_25 hR, rf_56_26 hR, rf_56_27 hR, rf_56_29 hR, rf_56_32 hR, rf_56_33 hR, rf_56_34 hR, rf_56_37 hR, rf_56_38 hR, kn_56, kn_57, kn_58, kn_59, kn_60, kn_61, kn_62, kn_63, kn_64, kn_65, kn_66, kn_67, kn_68, kn_69, kn_70, kn_71, kn_72, kn_73, kn_74, kn_75, kn_76, kn_77, kn_78, kn_79, kn_80, kn_81, kn_82, kn_83, ln_57, ln_58, ln_59, ln_60, ln_61, ln_62, ln_63, ln_64, ln_65, ln_66, ln_67, ln_68, ln_69, ln_70, ln_71, ln_72, ln_73, ln_74, ln_75, ln_76, ln_77, ln_78, ln_79, ln_80, ln_81, ln_82, ln_83, va_rf_some, push_s, push_n, nb0, nb1, nbb, Nat.reduceLT, hW.2.1, hn, if_false]
    rw [ha, show i = nt by omega]
  | j + 1, i, acc, l5, hj, ha => by
    have h16 := hW.2.2.2.1
    have hn : (nI i < nI nt) = True := eq_true (nI_lt (by omega) (by omega))
    have h3 := inb_nI (j := k) (n := 2) (by omega) (by decide)
    have h4 := nI_cl (n := k) (by omega)
    have h50 : tm_inb 50 468 = true := by decide
    have hc50 : (50 : Int32).toNatClampNeg = 50 := by decide
    have ih := fun acc' l5' e => m_told_loop hR hW hk (s := s) j (i + 1) acc' l5' (by omega) e
    rw [e_155_5]
    simp only [e_155_0, e_155_1, e_155_2, e_155_3, e_155_7, e_155_8, e_155_11, e_155_14, e_155_15, e_155_18, e_155_19, e_155_20, e_155_23, e_155_25, e_155_26, e_155_29, e_155_31, e_155_32, e_155_35, e_155_36, e_155_39, e_155_40, e_155_43, e_155_44, e_155_46, e_155_47, e_155_50, e_155_52, e_155_53, e_155_55, e_155_58, e_155_59, e_155_61, e_155_64, e_155_67, e_155_68, e_155_70, e_155_71, e_155_74, e_155_75, e_155_76, e_155_77, e_155_80, e_155_83, e_155_84, rf_56_0 hR, rf_56_4 hR, rf_56_5 hR, rf_56_6 hR, rf_56_7 hR, rf_56_8 hR, rf_56_9 hR, rf_56_10 hR, rf_56_11 hR, rf_56_12 hR, rf_56_14 hR, rf_56_15 hR, rf_56_19 hR, rf_56_20 hR, rf_56_21 hR, rf_56_22 hR, rf_56_23 hR, rf_56_24 hR, rf_56_25 hR, rf_56_26 hR, rf_56_27 hR, rf_56_29 hR, rf_56_32 hR, rf_56_33 hR, rf_56_34 hR, rf_56_37 hR, rf_56_38 hR, kn_56, kn_57, kn_58, kn_59, kn_60, kn_61, kn_62, kn_63, kn_64, kn_65, kn_66, kn_67, kn_68, kn_69, kn_70, kn_71, kn_72, kn_73, kn_74, kn_75, kn_76, kn_77, kn_78, kn_79, kn_80, kn_81, kn_82, kn_83, ln_57, ln_58, ln_59, ln_60, ln_61, ln_62, ln_63, ln_64, ln_65, ln_66, ln_67, ln_68, ln_69, ln_70, ln_71, ln_72, ln_73, ln_74, ln_75, ln_76, ln_77, ln_78, ln_79, ln_80, ln_81, ln_82, ln_83, va_rf_some, push_s, push_n, nb0, nb1, nbb, Nat.reduceLT, hW.2.1, hn, if_true, h3, h4, h50, hc50, m_isSo hR (show i < 16 by omega) hk, m_has (show i < 32 by omega), b2i_0, nI_1]
    by_cases c1 : I 79 k = 0
    · rw [if_pos c1]
      cases c2 : mso I k i with
      | false =>
        rw [if_pos rfl]
        exact ih _ _ (by rw [so, ha, mtold, if_pos c1, c2]; rfl)
      | true =>
        rw [if_neg (by decide)]
        cases c3 : bt s i with
        | false =>
          rw [if_pos rfl]
          exact ih _ _ (by rw [so, ha, mtold, if_pos c1, c2, c3]; rfl)
        | true =>
          rw [if_neg (by decide)]
          exact ih _ _ (by rw [so, ha, mtold, if_pos c1, c2, c3]; rfl)
    · rw [if_neg c1]
      by_cases c2 : nI i = I 57 50
      · rw [if_pos c2, if_neg (by decide)]
        cases c3 : bt s i with
        | false =>
          rw [if_pos rfl]
          exact ih _ _ (by rw [so, ha, mtold, if_neg c1, decide_eq_true c2, c3]; rfl)
        | true =>
          rw [if_neg (by decide)]
          exact ih _ _ (by rw [so, ha, mtold, if_neg c1, decide_eq_true c2, c3]; rfl)
      · rw [if_neg c2]
        exact ih _ _ (by rw [so, ha, mtold, if_neg c1, decide_eq_false c2]; rfl)
theorem m_told (hR : tRef h d R) (hW : mW I nr nt pl) {k : Nat} (hk : k < 2) {s : Int32} : tEv E 155 0 [.ref 56, .int (nI k), .int s, tm_dum, tm_dum, tm_dum] [] (mS I J R) Q = Q (some (so (fun t => mtold I k t && bt s t) nt)) (mS I J R) := by
  simp only [e_155_0, e_155_1, e_155_2, e_155_3]
  exact m_told_loop hR hW hk nt 0 0 tm_dum (by omega) rfl
theorem m_partners_loop (hR : tRef h d R) (hW : mW I nr nt pl) {a x : Nat} (ha : a < 12) (hA : I 56 36 = nI a) (hx : x < nt) (h2 : of2 a = true) : ∀ j i acc, i + j = nt → acc = so (mparb I pl nt a x) i → tEv E 168 35 [.ref 56, .int (nI x), .int acc, .int (nI i)] [] (mS I J R) Q = Q (some (so (mparb I pl nt a x) nt)) (mS I J R)
  | 0, i, acc, hj, he => by
    have h16 := hW.2.2.2.1
    have hn : (nI i < nI nt) = False := by
      rw [show i = nt by omega]
      exact eq_false Int32.lt_irrefl
    rw [e_168_35]
    simp only [e_168_0, e_168_1, e_168_2, e_168_3, e_168_6, e_168_9, e_168_12, e_168_13, e_168_14, e_168_17, e_168_18, e_168_19, e_168_22, e_168_25, e_168_26, e_168_27, e_168_28, e_168_31, e_168_32, e_168_33, e_168_34, e_168_36, e_168_37, e_168_40, e_168_43, e_168_44, e_168_45, e_168_48, e_168_49, e_168_50, e_168_51, e_168_54, e_168_57, e_168_58, e_168_59, e_168_62, e_168_63, e_168_64, e_168_67, e_168_70, e_168_71, e_168_72, e_168_73, e_168_76, e_168_77, e_168_78, e_168_79, e_168_82, e_168_85, e_168_86, rf_56_0 hR, rf_56_4 hR, rf_56_5 hR, rf_56_6 hR, rf_56_7 hR, rf_56_8 hR, rf_56_9 hR, rf_56_10 hR, rf_56_11 hR, rf_56_12 hR, rf_56_14 hR, rf_56_15 hR, rf_56_19 hR, rf_56_20 hR, rf_56_21 hR, rf_56_22 hR, rf_56_23 hR, rf_56_24 hR, rf_56_25 hR, rf_56_26 hR, rf_56_27 hR, rf_56_29 hR, rf_56_32 hR, rf_56_33 hR, rf_56_34 hR, rf_56_37 hR, rf_56_38 hR, kn_56, kn_57, kn_58, kn_59, kn_60, kn_61, kn_62, kn_63, kn_64, kn_65, kn_66, kn_67, kn_68, kn_69, kn_70, kn_71, kn_72, kn_73, kn_74, kn_75, kn_76, kn_77, kn_78, kn_79, kn_80, kn_81, kn_82, kn_83, ln_57, ln_58, ln_59, ln_60, ln_61, ln_62, ln_63, ln_64, ln_65, ln_66, ln_67, ln_68, ln_69, ln_70, ln_71, ln_72, ln_73, ln_74, ln_75, ln_76, ln_77, ln_78, ln_79, ln_80, ln_81, ln_82, ln_83, va_rf_some, push_s, push_n, nb0, nb1, nbb, Nat.reduceLT, hW.2.1, hn, if_false]
    rw [he, show i = nt by omega]
  | j + 1, i, acc, hj, he => by
    have h16 := hW.2.2.2.1
    have hn : (nI i < nI nt) = True := eq_true (nI_lt (by omega) (by omega))
    have h3 : tm_inb 1 2 = true := by decide
    have h4 : (1 : Int32).toNatClampNeg = 1 := by decide
    have ih := fun acc' e => m_partners_loop hR hW ha hA hx h2 j (i + 1) acc' (by omega) e
    have hw := fun {Q} => m_why (E := E) (Q := Q) (J := J) (y := i) hR hW ha hx (fun _ => ⟨rfl, show i < nt by omega⟩)
    rw [e_168_35]
    simp only [e_168_0, e_168_1, e_168_2, e_168_3, e_168_6, e_168_9, e_168_12, e_168_13, e_168_14, e_168_17, e_168_18, e_168_19, e_168_22, e_168_25, e_168_26, e_168_27, e_168_28, e_168_31, e_168_32, e_168_33, e_168_34, e_168_36, e_168_37, e_168_40, e_168_43, e_168_44, e_168_45, e_168_48, e_168_49, e_168_50, e_168_51, e_168_54, e_168_57, e_168_58, e_168_59, e_168_62, e_168_63, e_168_64, e_168_67, e_168_70, e_168_71, e_168_72, e_168_73, e_168_76, e_168_77, e_168_78, e_168_79, e_168_82, e_168_85, e_168_86, rf_56_0 hR, rf_56_4 hR, rf_56_5 hR, rf_56_6 hR, rf_56_7 hR, rf_56_8 hR, rf_56_9 hR, rf_56_10 hR, rf_56_11 hR, rf_56_12 hR, rf_56_14 hR, rf_56_15 hR, rf_56_19 hR, rf_56_20 hR, rf_56_21 hR, rf_56_22 hR, rf_56_23 hR, rf_56_24 hR, rf_56_25 hR, rf_56_26 hR, rf_56_27 hR, rf_56_29 hR, rf_56_32 hR, rf_56_33 hR, rf_56_34 hR, rf_56_37 hR, rf_56_38 hR, kn_56, kn_57, kn_58, kn_59, kn_60, kn_61, kn_62, kn_63, kn_64, kn_65, kn_66, kn_67, kn_68, kn_69, kn_70, kn_71, kn_72, kn_73, kn_74, kn_75, kn_76, kn_77, kn_78, kn_79, kn_80, kn_81, kn_82, kn_83, ln_57, ln_58, ln_59, ln_60, ln_61, ln_62, ln_63, ln_64, ln_65, ln_66, ln_67, ln_68, ln_69, ln_70, ln_71, ln_72, ln_73, ln_74, ln_75, ln_76, ln_77, ln_78, ln_79, ln_80, ln_81, ln_82, ln_83, va_rf_some, push_s, push_n, nb0, nb1, nbb, Nat.reduceLT, hW.2.1, hn, if_true, h3, h4, hA, hw, m_has (show i < 32 by omega), b2i_0, nI_1]
    cases c3 : bt (I 82 1) i with
    | false =>
      rw [if_pos rfl]
      exact ih _ (by rw [so, he, mparb, if_pos h2, c3]; rfl)
    | true =>
      rw [if_neg (by decide)]
      by_cases c4 : mwhy I pl nt a x i = 0
      · rw [if_pos c4]
        exact ih _ (by rw [so, he, mparb, if_pos h2, c3, decide_eq_true c4]; rfl)
      · rw [if_neg c4]
        exact ih _ (by rw [so, he, mparb, if_pos h2, c3, decide_eq_false c4]; rfl)
theorem so_one {p : Nat → Bool} {n x : Nat} (hn : n ≤ 32) (hx : x < n) (h : ∀ i, i < n → p i = true → i = x) : so p n = if p x = true then (1 : Int32) <<< (nI x &&& 31) else 0 := by
  apply b_ext
  intro i hi
  rw [so_bt _ hn i hi]
  by_cases hp : p x = true
  · rw [if_pos hp, b_one (by omega) hi]
    by_cases e : i = x
    · subst e; simp [hx, hp]
    · rw [decide_eq_false e]
      cases hq : p i with
      | false => simp
      | true =>
        by_cases e2 : i < n
        · exact absurd (h i e2 hq) e
        · simp [e2]
  · rw [if_neg hp, b_0]
    cases hq : p i with
    | false => simp
    | true =>
      by_cases e2 : i < n
      · exact absurd (h i e2 hq ▸ hq) hp
      · simp [e2]
theorem m_partners (hR : tRef h d R) (hW : mW I nr nt pl) {a x : Nat} (ha : a < 12) (hA : I 56 36 = nI a) (hx : x < nt) : tEv E 168 0 [.ref 56, .int (nI x), tm_dum, tm_dum] [] (mS I J R) Q = Q (some (so (mparb I pl nt a x) nt)) (mS I J R) := by
  have h16 := hW.2.2.2.1
  cases h2 : of2 a with
  | true =>
    simp only [e_168_0, e_168_1, e_168_2, e_168_3, e_168_6, e_168_9, e_168_33, e_168_34, rf_56_0 hR, rf_56_4 hR, rf_56_5 hR, rf_56_6 hR, rf_56_7 hR, rf_56_8 hR, rf_56_9 hR, rf_56_10 hR, rf_56_11 hR, rf_56_12 hR, rf_56_14 hR, rf_56_15 hR, rf_56_19 hR, rf_56_20 hR, rf_56_21 hR, rf_56_22 hR, rf_56_23 hR, rf_56_24 hR, rf_56_25 hR, rf_56_26 hR, rf_56_27 hR, rf_56_29 hR, rf_56_32 hR, rf_56_33 hR, rf_56_34 hR, rf_56_37 hR, rf_56_38 hR, kn_56, kn_57, kn_58, kn_59, kn_60, kn_61, kn_62, kn_63, kn_64, kn_65, kn_66, kn_67, kn_68, kn_69, kn_70, kn_71, kn_72, kn_73, kn_74, kn_75, kn_76, kn_77, kn_78, kn_79, kn_80, kn_81, kn_82, kn_83, ln_57, ln_58, ln_59, ln_60, ln_61, ln_62, ln_63, ln_64, ln_65, ln_66, ln_67, ln_68, ln_69, ln_70, ln_71, ln_72, ln_73, ln_74, ln_75, ln_76, ln_77, ln_78, ln_79, ln_80, ln_81, ln_82, ln_83, va_rf_some, push_s, push_n, nb0, nb1, nbb, Nat.reduceLT, hA, m_isOfTwo (show a < 100 by omega), b2i_0, h2]
    exact m_partners_loop hR hW ha hA hx h2 nt 0 0 (by omega) rfl
  | false =>
    have hw := fun {Q} => m_why (E := E) (Q := Q) (J := J) (y := x) (yv := 0) hR hW ha hx (fun e => by rw [h2] at e; cases e)
    simp only [e_168_0, e_168_1, e_168_2, e_168_3, e_168_6, e_168_9, e_168_12, e_168_13, e_168_14, e_168_17, e_168_18, e_168_19, e_168_22, e_168_25, e_168_26, e_168_27, e_168_28, e_168_31, e_168_32, rf_56_0 hR, rf_56_4 hR, rf_56_5 hR, rf_56_6 hR, rf_56_7 hR, rf_56_8 hR, rf_56_9 hR, rf_56_10 hR, rf_56_11 hR, rf_56_12 hR, rf_56_14 hR, rf_56_15 hR, rf_56_19 hR, rf_56_20 hR, rf_56_21 hR, rf_56_22 hR, rf_56_23 hR, rf_56_24 hR, rf_56_25 hR, rf_56_26 hR, rf_56_27 hR, rf_56_29 hR, rf_56_32 hR, rf_56_33 hR, rf_56_34 hR, rf_56_37 hR, rf_56_38 hR, kn_56, kn_57, kn_58, kn_59, kn_60, kn_61, kn_62, kn_63, kn_64, kn_65, kn_66, kn_67, kn_68, kn_69, kn_70, kn_71, kn_72, kn_73, kn_74, kn_75, kn_76, kn_77, kn_78, kn_79, kn_80, kn_81, kn_82, kn_83, ln_57, ln_58, ln_59, ln_60, ln_61, ln_62, ln_63, ln_64, ln_65, ln_66, ln_67, ln_68, ln_69, ln_70, ln_71, ln_72, ln_73, ln_74, ln_75, ln_76, ln_77, ln_78, ln_79, ln_80, ln_81, ln_82, ln_83, va_rf_some, push_s, push_n, nb0, nb1, nbb, Nat.reduceLT, hA, m_isOfTwo (show a < 100 by omega), b2i_0, h2, if_true, hw]
    rw [so_one (by omega) hx (fun i hi hp => by
      unfold mparb at hp
      rw [h2] at hp
      simp only [Bool.false_eq_true, if_false, Bool.and_eq_true, beq_iff_eq] at hp
      exact hp.1)]
    unfold mparb
    rw [h2]
    by_cases c : mwhy I pl nt a x x = 0 <;> simp [c]
end M6
