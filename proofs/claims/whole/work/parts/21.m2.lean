/-! ===== the model's world ===== -/
theorem lg_lt0 (x y : Int64) : (lg_cmp x y < 0) = (x < y) := by
  apply propext
  unfold lg_cmp
  by_cases h1 : x > y
  · rw [if_pos h1]
    exact ⟨fun h => absurd h (by decide), fun h => absurd h (lg_lt_not h1)⟩
  · rw [if_neg h1]
    by_cases h2 : x = y
    · rw [if_pos h2]
      exact ⟨fun h => absurd h (by decide), fun h => absurd h (by rw [h2]; exact Int64.lt_irrefl)⟩
    · rw [if_neg h2]
      refine ⟨fun _ => ?_, fun _ => by decide⟩
      rcases Int64.lt_or_eq_of_le (Int64.not_lt.mp h1) with q | q
      · exact q
      · exact absurd q h2
theorem lg_gt0 (x y : Int64) : (0 < lg_cmp x y) = (y < x) := by
  apply propext
  unfold lg_cmp
  by_cases h1 : x > y
  · rw [if_pos h1]
    exact ⟨fun _ => h1, fun _ => by decide⟩
  · rw [if_neg h1]
    refine ⟨fun h => ?_, fun h => absurd h h1⟩
    by_cases h2 : x = y
    · rw [if_pos h2] at h; exact absurd h (by decide)
    · rw [if_neg h2] at h; exact absurd h (by decide)
theorem wide_le (a b : Int32) : a.toInt64 ≤ b.toInt64 ↔ a ≤ b := by
  rw [Int64.le_iff_toInt_le, Int32.le_iff_toInt_le, Int32.toInt_toInt64, Int32.toInt_toInt64]
/-- what holds of the house and the places -/
def mW (I : Nat → Nat → Int32) (nr nt : Nat) (pl : Nat → Nat) : Prop := I 56 2 = nI nr ∧ I 56 3 = nI nt ∧ nr ≤ 6 ∧ nt ≤ 16 ∧ (∀ t, t < nt → I 57 t = nI (pl t) ∧ (pl t < nr ∨ (10 ≤ pl t ∧ pl t < 10 + nt) ∨ pl t = 30)) ∧ ∀ t, t < nt → ends pl t
theorem mW_pl {I : Nat → Nat → Int32} {nr nt : Nat} {pl : Nat → Nat} (h : mW I nr nt pl) {t : Nat} (ht : t < nt) : pl t < 31 := by
  have := (h.2.2.2.2.1 t ht).2
  have := h.2.2.1
  have := h.2.2.2.1
  omega
theorem mW_ch {I : Nat → Nat → Int32} {nr nt : Nat} {pl : Nat → Nat} (h : mW I nr nt pl) {t : Nat} (ht : t < nt) : ∀ n, ch pl t n < nr ∨ (10 ≤ ch pl t n ∧ ch pl t n < 10 + nt) ∨ ch pl t n = 30
  | 0 => (h.2.2.2.2.1 t ht).2
  | n + 1 => by
    rw [ch]
    have ih := mW_ch h ht n
    by_cases hi : inT (ch pl t n) = true
    · rw [nx_in hi]
      have h1 := of_decide_eq_true hi
      have h2 := h.2.2.1
      exact (h.2.2.2.2.1 (ch pl t n - 10) (by omega)).2
    · rw [nx_out (by simpa using hi)]
      exact ih
theorem mW_in {I : Nat → Nat → Int32} {nr nt : Nat} {pl : Nat → Nat} (h : mW I nr nt pl) {t n : Nat} (ht : t < nt) (hi : inT (ch pl t n) = true) : ch pl t n - 10 < nt ∧ 10 ≤ ch pl t n ∧ I 57 (ch pl t n - 10) = nI (ch pl t (n + 1)) := by
  have h1 := of_decide_eq_true hi
  have h2 := mW_ch h ht n
  have h3 := h.2.2.1
  have h4 : ch pl t n - 10 < nt := by omega
  refine ⟨h4, h1.1, ?_⟩
  rw [(h.2.2.2.2.1 _ h4).1, ch, nx_in hi]
/-- closed -/
def mcl (I : Nat → Nat → Int32) (t : Nat) : Bool := !decide (I 62 t &&& 4 = 0) && decide (I 57 (16 + t) &&& 1 = 0)
def mshut (I : Nat → Nat → Int32) (t : Nat) : Bool := !decide (I 62 t &&& 1 = 0) && mcl I t
section M2
variable {E : tm_Env} {Q : Option Int32 → tm_St → Prop} {I : Nat → Nat → Int32} {J : Nat → Nat → Int64} {R : Nat → Nat → Option Nat} {h d : Nat} {nr nt : Nat} {pl : Nat → Nat}
theorem m_in {a b c : Int64} {S : tm_St} : tEv E 47 0 [.long a, tm_dum, .long b, tm_dum, .long c, tm_dum] [] S Q = Q (some (b2i (decide (b ≤ a ∧ a ≤ c)))) S := by
  simp only [e_47_0, e_47_1, e_47_2, e_47_3, e_47_6, e_47_7, e_47_9, e_47_10, e_47_13, e_47_14, e_47_17, e_47_18, va_rf_some, push_s, push_n, nb0, nb1, nbb, Nat.reduceLT, lg_lt0, lg_gt0]
  by_cases h1 : a < b
  · rw [if_pos h1, decide_eq_false (fun q => (Int64.not_le.mpr h1) q.1)]; rfl
  · rw [if_neg h1]
    by_cases h2 : c < a
    · rw [if_pos h2, decide_eq_false (fun q => (Int64.not_le.mpr h2) q.2)]; rfl
    · rw [if_neg h2, decide_eq_true ⟨Int64.not_lt.mp h1, Int64.not_lt.mp h2⟩]; rfl
theorem m_inx {S : tm_St} {x lo hi : Int32} : tEv E 47 0 [.long x.toInt64, tm_dum, .long lo.toInt64, tm_dum, .long hi.toInt64, tm_dum] [] S Q = Q (some (b2i (decide (lo ≤ x ∧ x ≤ hi)))) S := by
  rw [m_in]
  simp only [wide_le]
theorem m_inn {S : tm_St} {p lo hi : Nat} (hp : p < 2147483648) (h1 : lo < 2147483648) (h2 : hi < 2147483648) : tEv E 47 0 [.long (nI p).toInt64, tm_dum, .long (nI lo).toInt64, tm_dum, .long (nI hi).toInt64, tm_dum] [] S Q = Q (some (b2i (decide (lo ≤ p ∧ p ≤ hi)))) S := by
  rw [m_inx]
  simp only [nI_leI h1 hp, nI_leI hp h2]
theorem m_in_32_126 {S : tm_St} {x : Int32} : tEv E 47 0 [.long x.toInt64, tm_dum, .long 32, tm_dum, .long 126, tm_dum] [] S Q = Q (some (b2i (decide (32 ≤ x ∧ x ≤ 126)))) S := m_inx (lo := 32) (hi := 126)
theorem m_inN_32_126 {S : tm_St} {p : Nat} (hp : p < 2147483648) : tEv E 47 0 [.long (nI p).toInt64, tm_dum, .long 32, tm_dum, .long 126, tm_dum] [] S Q = Q (some (b2i (decide (32 ≤ p ∧ p ≤ 126)))) S := m_inn (lo := 32) (hi := 126) hp (by decide) (by decide)
theorem m_in_97_122 {S : tm_St} {x : Int32} : tEv E 47 0 [.long x.toInt64, tm_dum, .long 97, tm_dum, .long 122, tm_dum] [] S Q = Q (some (b2i (decide (97 ≤ x ∧ x ≤ 122)))) S := m_inx (lo := 97) (hi := 122)
theorem m_inN_97_122 {S : tm_St} {p : Nat} (hp : p < 2147483648) : tEv E 47 0 [.long (nI p).toInt64, tm_dum, .long 97, tm_dum, .long 122, tm_dum] [] S Q = Q (some (b2i (decide (97 ≤ p ∧ p ≤ 122)))) S := m_inn (lo := 97) (hi := 122) hp (by decide) (by decide)
theorem m_in_12_19 {S : tm_St} {x : Int32} : tEv E 47 0 [.long x.toInt64, tm_dum, .long 12, tm_dum, .long 19, tm_dum] [] S Q = Q (some (b2i (decide (12 ≤ x ∧ x ≤ 19)))) S := m_inx (lo := 12) (hi := 19)
theorem m_inN_12_19 {S : tm_St} {p : Nat} (hp : p < 2147483648) : tEv E 47 0 [.long (nI p).toInt64, tm_dum, .long 12, tm_dum, .long 19, tm_dum] [] S Q = Q (some (b2i (decide (12 ≤ p ∧ p ≤ 19)))) S := m_inn (lo := 12) (hi := 19) hp (by decide) (by decide)
theorem m_in_0_11 {S : tm_St} {x : Int32} : tEv E 47 0 [.long x.toInt64, tm_dum, .long 0, tm_dum, .long 11, tm_dum] [] S Q = Q (some (b2i (decide (0 ≤ x ∧ x ≤ 11)))) S := m_inx (lo := 0) (hi := 11)
theorem m_inN_0_11 {S : tm_St} {p : Nat} (hp : p < 2147483648) : tEv E 47 0 [.long (nI p).toInt64, tm_dum, .long 0, tm_dum, .long 11, tm_dum] [] S Q = Q (some (b2i (decide (0 ≤ p ∧ p ≤ 11)))) S := m_inn (lo := 0) (hi := 11) hp (by decide) (by decide)
theorem m_in_39_42 {S : tm_St} {x : Int32} : tEv E 47 0 [.long x.toInt64, tm_dum, .long 39, tm_dum, .long 42, tm_dum] [] S Q = Q (some (b2i (decide (39 ≤ x ∧ x ≤ 42)))) S := m_inx (lo := 39) (hi := 42)
theorem m_inN_39_42 {S : tm_St} {p : Nat} (hp : p < 2147483648) : tEv E 47 0 [.long (nI p).toInt64, tm_dum, .long 39, tm_dum, .long 42, tm_dum] [] S Q = Q (some (b2i (decide (39 ≤ p ∧ p ≤ 42)))) S := m_inn (lo := 39) (hi := 42) hp (by decide) (by decide)
theorem m_in_10_25 {S : tm_St} {x : Int32} : tEv E 47 0 [.long x.toInt64, tm_dum, .long 10, tm_dum, .long 25, tm_dum] [] S Q = Q (some (b2i (decide (10 ≤ x ∧ x ≤ 25)))) S := m_inx (lo := 10) (hi := 25)
theorem m_inN_10_25 {S : tm_St} {p : Nat} (hp : p < 2147483648) : tEv E 47 0 [.long (nI p).toInt64, tm_dum, .long 10, tm_dum, .long 25, tm_dum] [] S Q = Q (some (b2i (decide (10 ≤ p ∧ p ≤ 25)))) S := m_inn (lo := 10) (hi := 25) hp (by decide) (by decide)
theorem m_in_0_13 {S : tm_St} {x : Int32} : tEv E 47 0 [.long x.toInt64, tm_dum, .long 0, tm_dum, .long 13, tm_dum] [] S Q = Q (some (b2i (decide (0 ≤ x ∧ x ≤ 13)))) S := m_inx (lo := 0) (hi := 13)
theorem m_inN_0_13 {S : tm_St} {p : Nat} (hp : p < 2147483648) : tEv E 47 0 [.long (nI p).toInt64, tm_dum, .long 0, tm_dum, .long 13, tm_dum] [] S Q = Q (some (b2i (decide (0 ≤ p ∧ p ≤ 13)))) S := m_inn (lo := 0) (hi := 13) hp (by decide) (by decide)
theorem m_in_0_3 {S : tm_St} {x : Int32} : tEv E 47 0 [.long x.toInt64, tm_dum, .long 0, tm_dum, .long 3, tm_dum] [] S Q = Q (some (b2i (decide (0 ≤ x ∧ x ≤ 3)))) S := m_inx (lo := 0) (hi := 3)
theorem m_inN_0_3 {S : tm_St} {p : Nat} (hp : p < 2147483648) : tEv E 47 0 [.long (nI p).toInt64, tm_dum, .long 0, tm_dum, .long 3, tm_dum] [] S Q = Q (some (b2i (decide (0 ≤ p ∧ p ≤ 3)))) S := m_inn (lo := 0) (hi := 3) hp (by decide) (by decide)
theorem m_in_0_1 {S : tm_St} {x : Int32} : tEv E 47 0 [.long x.toInt64, tm_dum, .long 0, tm_dum, .long 1, tm_dum] [] S Q = Q (some (b2i (decide (0 ≤ x ∧ x ≤ 1)))) S := m_inx (lo := 0) (hi := 1)
theorem m_inN_0_1 {S : tm_St} {p : Nat} (hp : p < 2147483648) : tEv E 47 0 [.long (nI p).toInt64, tm_dum, .long 0, tm_dum, .long 1, tm_dum] [] S Q = Q (some (b2i (decide (0 ≤ p ∧ p ≤ 1)))) S := m_inn (lo := 0) (hi := 1) hp (by decide) (by decide)
theorem m_in_48_57 {S : tm_St} {x : Int32} : tEv E 47 0 [.long x.toInt64, tm_dum, .long 48, tm_dum, .long 57, tm_dum] [] S Q = Q (some (b2i (decide (48 ≤ x ∧ x ≤ 57)))) S := m_inx (lo := 48) (hi := 57)
theorem m_inN_48_57 {S : tm_St} {p : Nat} (hp : p < 2147483648) : tEv E 47 0 [.long (nI p).toInt64, tm_dum, .long 48, tm_dum, .long 57, tm_dum] [] S Q = Q (some (b2i (decide (48 ≤ p ∧ p ≤ 57)))) S := m_inn (lo := 48) (hi := 57) hp (by decide) (by decide)

theorem m_isClosed (hR : tRef h d R) {t : Nat} (ht : t < 16) : tEv E 159 0 [.ref 56, .int (nI t)] [] (mS I J R) Q = Q (some (b2i (mcl I t))) (mS I J R) := by
  simp only [e_159_0, e_159_1, e_159_2, e_159_3, e_159_6, e_159_9, e_159_10, e_159_11, e_159_12, e_159_15, e_159_18, e_159_19, e_159_22, e_159_23, rf_56_0 hR, rf_56_4 hR, rf_56_5 hR, rf_56_6 hR, rf_56_7 hR, rf_56_8 hR, rf_56_9 hR, rf_56_10 hR, rf_56_11 hR, rf_56_12 hR, rf_56_14 hR, rf_56_15 hR, rf_56_19 hR, rf_56_20 hR, rf_56_21 hR, rf_56_22 hR, rf_56_23 hR, rf_56_24 hR, rf_56_25 hR, rf_56_26 hR, rf_56_27 hR, rf_56_29 hR, rf_56_32 hR, rf_56_33 hR, rf_56_34 hR, rf_56_37 hR, rf_56_38 hR, kn_56, kn_57, kn_58, kn_59, kn_60, kn_61, kn_62, kn_63, kn_64, kn_65, kn_66, kn_67, kn_68, kn_69, kn_70, kn_71, kn_72, kn_73, kn_74, kn_75, kn_76, kn_77, kn_78, kn_79, kn_80, kn_81, kn_82, kn_83, ln_57, ln_58, ln_59, ln_60, ln_61, ln_62, ln_63, ln_64, ln_65, ln_66, ln_67, ln_68, ln_69, ln_70, ln_71, ln_72, ln_73, ln_74, ln_75, ln_76, ln_77, ln_78, ln_79, ln_80, ln_81, ln_82, ln_83, va_rf_some, push_s, push_n, nb0, nb1, nbb, Nat.reduceLT, m_isTrait hR ht, m_isState hR ht, b2i_0, ite_Q, Bool.not_eq_false', decide_eq_true_eq]
  unfold mcl
  by_cases h1 : I 62 t &&& 4 = 0 <;> by_cases h2 : I 57 (16 + t) &&& 1 = 0 <;> simp [h1, h2, b2i]
theorem m_end_loop (hR : tRef h d R) (hW : mW I nr nt pl) {t : Nat} (ht : t < nt) (b : Bool) : ∀ j i l4, i + j = 16 → (∀ k, k < i → inT (ch pl t k) = true ∧ (b && mshut I (ch pl t k - 10)) = false) → tEv E 160 9 [.ref 56, .int (nI t), .int (b2i b), .int (nI (ch pl t i)), l4] [] (mS I J R) Q = Q (some (if (b && hid pl (mshut I) t) = true then -4 else nI (fin pl t))) (mS I J R)
  | 0, i, l4, hj, hb => by
    exfalso
    obtain ⟨n, h1, h2, -⟩ := ends_15 (Nat.lt_of_lt_of_le ht hW.2.2.2.1) (hW.2.2.2.2.2 t ht)
    have := (hb n (by omega)).1
    rw [h2] at this
    cases this
  | j + 1, i, l4, hj, hb => by
    have hp : ch pl t i < 2147483648 := by have := mW_ch hW ht i; have := hW.2.2.1; have := hW.2.2.2.1; omega
    by_cases hi : inT (ch pl t i) = true
    · obtain ⟨g1, g2, g3⟩ := mW_in hW ht hi
      have hi' := of_decide_eq_true hi
      have hsub : nI (ch pl t i) - 10 = nI (ch pl t i - 10) := pk_sub (b := 10) g2
      have hk16 : ch pl t i - 10 < 16 := by omega
      have hix := inb_nI (j := ch pl t i - 10) (n := 468) (by omega) (by decide)
      have hcl := nI_cl (n := ch pl t i - 10) (by omega)
      have hz : (0 : Int32) + nI (ch pl t i - 10) = nI (ch pl t i - 10) := Int32.zero_add _
      have hd : decide (10 ≤ ch pl t i ∧ ch pl t i ≤ 25) = true := hi
      rw [e_160_9]
      simp only [e_160_0, e_160_1, e_160_4, e_160_5, e_160_6, e_160_7, e_160_8, e_160_10, e_160_11, e_160_14, e_160_17, e_160_20, e_160_23, e_160_24, e_160_26, e_160_27, e_160_29, e_160_30, e_160_33, e_160_34, e_160_36, e_160_37, e_160_40, e_160_43, e_160_44, e_160_46, e_160_49, e_160_52, e_160_54, e_160_55, e_160_56, e_160_59, e_160_60, e_160_62, e_160_63, e_160_64, e_160_65, e_160_68, e_160_69, rf_56_0 hR, rf_56_4 hR, rf_56_5 hR, rf_56_6 hR, rf_56_7 hR, rf_56_8 hR, rf_56_9 hR, rf_56_10 hR, rf_56_11 hR, rf_56_12 hR, rf_56_14 hR, rf_56_15 hR, rf_56_19 hR, rf_56_20 hR, rf_56_21 hR, rf_56_22 hR, rf_56_23 hR, rf_56_24 hR, rf_56_25 hR, rf_56_26 hR, rf_56_27 hR, rf_56_29 hR, rf_56_32 hR, rf_56_33 hR, rf_56_34 hR, rf_56_37 hR, rf_56_38 hR, kn_56, kn_57, kn_58, kn_59, kn_60, kn_61, kn_62, kn_63, kn_64, kn_65, kn_66, kn_67, kn_68, kn_69, kn_70, kn_71, kn_72, kn_73, kn_74, kn_75, kn_76, kn_77, kn_78, kn_79, kn_80, kn_81, kn_82, kn_83, ln_57, ln_58, ln_59, ln_60, ln_61, ln_62, ln_63, ln_64, ln_65, ln_66, ln_67, ln_68, ln_69, ln_70, ln_71, ln_72, ln_73, ln_74, ln_75, ln_76, ln_77, ln_78, ln_79, ln_80, ln_81, ln_82, ln_83, va_rf_some, push_s, push_n, nb0, nb1, nbb, Nat.reduceLT, m_inN_10_25 hp, hd, hsub, m_isTrait hR hk16, m_isClosed hR hk16, hix, hcl, hz, g3, b2i_0, Bool.not_eq_false', decide_eq_true_eq, Bool.true_eq_false, if_false, reduceIte, reduceCtorEq]
      have ih := m_end_loop hR hW ht b j (i + 1) (.int (nI (ch pl t i - 10))) (by omega)
      by_cases hs : (b && mshut I (ch pl t i - 10)) = true
      · have hh : hid pl (mshut I) t = true := hid_iff.mpr ⟨i, by omega, hi, by simp only [Bool.and_eq_true] at hs; exact hs.2⟩
        simp only [mshut, Bool.and_eq_true, Bool.not_eq_true', decide_eq_false_iff_not] at hs
        obtain ⟨rfl, h1, h2⟩ := hs
        rw [if_neg (by decide), if_neg h1, if_neg (by rw [h2]; decide), hh]
        rfl
      · have ih' := ih (fun k hk => by
          by_cases hk2 : k < i
          · exact hb k hk2
          · obtain rfl : k = i := by omega
            exact ⟨hi, by simpa using hs⟩)
        split
        · exact ih'
        · split
          · exact ih'
          · split
            · exact ih'
            · rename_i c1 c2 c3
              exfalso
              apply hs
              simp [mshut, c2, c3, show b = true by simpa using c1]
    · have hd : decide (10 ≤ ch pl t i ∧ ch pl t i ≤ 25) = false := by simpa [inT] using hi
      rw [e_160_9]
      simp only [e_160_0, e_160_1, e_160_4, e_160_5, e_160_6, e_160_7, e_160_8, e_160_10, e_160_11, e_160_14, e_160_17, e_160_20, e_160_23, e_160_24, e_160_26, e_160_27, e_160_29, e_160_30, e_160_33, e_160_34, e_160_36, e_160_37, e_160_40, e_160_43, e_160_44, e_160_46, e_160_49, e_160_52, e_160_54, e_160_55, e_160_56, e_160_59, e_160_60, e_160_62, e_160_63, e_160_64, e_160_65, e_160_68, e_160_69, rf_56_0 hR, rf_56_4 hR, rf_56_5 hR, rf_56_6 hR, rf_56_7 hR, rf_56_8 hR, rf_56_9 hR, rf_56_10 hR, rf_56_11 hR, rf_56_12 hR, rf_56_14 hR, rf_56_15 hR, rf_56_19 hR, rf_56_20 hR, rf_56_21 hR, rf_56_22 hR, rf_56_23 hR, rf_56_24 hR, rf_56_25 hR, rf_56_26 hR, rf_56_27 hR, rf_56_29 hR, rf_56_32 hR, rf_56_33 hR, rf_56_34 hR, rf_56_37 hR, rf_56_38 hR, kn_56, kn_57, kn_58, kn_59, kn_60, kn_61, kn_62, kn_63, kn_64, kn_65, kn_66, kn_67, kn_68, kn_69, kn_70, kn_71, kn_72, kn_73, kn_74, kn_75, kn_76, kn_77, kn_78, kn_79, kn_80, kn_81, kn_82, kn_83, ln_57, ln_58, ln_59, ln_60, ln_61, ln_62, ln_63, ln_64, ln_65, ln_66, ln_67, ln_68, ln_69, ln_70, ln_71, ln_72, ln_73, ln_74, ln_75, ln_76, ln_77, ln_78, ln_79, ln_80, ln_81, ln_82, ln_83, va_rf_some, push_s, push_n, nb0, nb1, nbb, Nat.reduceLT, m_inN_10_25 hp, hd]
      have hf := fin_of (Nat.lt_of_lt_of_le ht hW.2.2.2.1) (n := i) (by simpa using hi)
      have hh : (b && hid pl (mshut I) t) = false := by
        cases hx : b && hid pl (mshut I) t with
        | false => rfl
        | true =>
          exfalso
          simp only [Bool.and_eq_true] at hx
          obtain ⟨k, -, k2, k3⟩ := hid_iff.mp hx.2
          by_cases hk : k < i
          · have := (hb k hk).2
            rw [hx.1, k3] at this
            cases this
          · rw [ch_stop (by simpa using hi) k (by omega)] at k2
            exact hi k2
      rw [hh, hf]
      rfl
theorem m_end (hR : tRef h d R) (hW : mW I nr nt pl) {t : Nat} (ht : t < nt) (b : Bool) : tEv E 160 0 [.ref 56, .int (nI t), .int (b2i b), tm_dum, tm_dum] [] (mS I J R) Q = Q (some (if (b && hid pl (mshut I) t) = true then -4 else nI (fin pl t))) (mS I J R) := by
  have h16 := Nat.lt_of_lt_of_le ht hW.2.2.2.1
  have hix := inb_nI (j := t) (n := 468) (by omega) (by decide)
  have hcl := nI_cl (n := t) (by omega)
  have hz : (0 : Int32) + nI t = nI t := Int32.zero_add _
  have h0 := (hW.2.2.2.2.1 t ht).1
  simp only [e_160_0, e_160_1, e_160_4, e_160_5, e_160_6, e_160_7, e_160_8, rf_56_0 hR, rf_56_4 hR, rf_56_5 hR, rf_56_6 hR, rf_56_7 hR, rf_56_8 hR, rf_56_9 hR, rf_56_10 hR, rf_56_11 hR, rf_56_12 hR, rf_56_14 hR, rf_56_15 hR, rf_56_19 hR, rf_56_20 hR, rf_56_21 hR, rf_56_22 hR, rf_56_23 hR, rf_56_24 hR, rf_56_25 hR, rf_56_26 hR, rf_56_27 hR, rf_56_29 hR, rf_56_32 hR, rf_56_33 hR, rf_56_34 hR, rf_56_37 hR, rf_56_38 hR, kn_56, kn_57, kn_58, kn_59, kn_60, kn_61, kn_62, kn_63, kn_64, kn_65, kn_66, kn_67, kn_68, kn_69, kn_70, kn_71, kn_72, kn_73, kn_74, kn_75, kn_76, kn_77, kn_78, kn_79, kn_80, kn_81, kn_82, kn_83, ln_57, ln_58, ln_59, ln_60, ln_61, ln_62, ln_63, ln_64, ln_65, ln_66, ln_67, ln_68, ln_69, ln_70, ln_71, ln_72, ln_73, ln_74, ln_75, ln_76, ln_77, ln_78, ln_79, ln_80, ln_81, ln_82, ln_83, va_rf_some, push_s, push_n, nb0, nb1, nbb, Nat.reduceLT, hix, hcl, hz, h0]
  exact m_end_loop hR hW ht b 16 0 tm_dum rfl (fun k hk => absurd hk (by omega))
theorem m_within_loop (hR : tRef h d R) (hW : mW I nr nt pl) {t y : Nat} (ht : t < nt) (hy : y < 16) : ∀ j i, i + j = 16 → (∀ k, k < i → inT (ch pl t k) = true ∧ ch pl t k ≠ 10 + y) → tEv E 161 9 [.ref 56, .int (nI t), .int (nI y), .int (nI (ch pl t i))] [] (mS I J R) Q = Q (some (b2i (wi pl t y))) (mS I J R)
  | 0, i, hj, hb => by
    exfalso
    obtain ⟨n, h1, h2, -⟩ := ends_15 (Nat.lt_of_lt_of_le ht hW.2.2.2.1) (hW.2.2.2.2.2 t ht)
    have := (hb n (by omega)).1
    rw [h2] at this
    cases this
  | j + 1, i, hj, hb => by
    have hp : ch pl t i < 2147483648 := by have := mW_ch hW ht i; have := hW.2.2.1; have := hW.2.2.2.1; omega
    have hyy : (10 : Int32) + nI y = nI (10 + y) := nI_add 10 y
    have hcmp : nI (ch pl t i) = nI (10 + y) ↔ ch pl t i = 10 + y := nI_eq hp (by omega)
    by_cases he : ch pl t i = 10 + y
    · have hw : wi pl t y = true := wi_iff.mpr ⟨i, by omega, he⟩
      have hp' : 10 + y < 2147483648 := by omega
      have hd : decide (10 ≤ 10 + y ∧ 10 + y ≤ 25) = true := decide_eq_true (by omega)
      rw [e_161_9, hw]
      simp only [e_161_0, e_161_1, e_161_4, e_161_5, e_161_6, e_161_7, e_161_8, e_161_10, e_161_11, e_161_14, e_161_17, e_161_20, e_161_23, e_161_24, e_161_26, e_161_27, e_161_28, e_161_31, e_161_32, e_161_35, e_161_36, e_161_37, e_161_38, e_161_40, e_161_41, e_161_42, e_161_43, e_161_46, e_161_47, e_161_49, e_161_50, e_161_51, e_161_54, e_161_55, e_161_58, e_161_59, rf_56_0 hR, rf_56_4 hR, rf_56_5 hR, rf_56_6 hR, rf_56_7 hR, rf_56_8 hR, rf_56_9 hR, rf_56_10 hR, rf_56_11 hR, rf_56_12 hR, rf_56_14 hR, rf_56_15 hR, rf_56_19 hR, rf_56_20 hR, rf_56_21 hR, rf_56_22 hR, rf_56_23 hR, rf_56_24 hR, rf_56_25 hR, rf_56_26 hR, rf_56_27 hR, rf_56_29 hR, rf_56_32 hR, rf_56_33 hR, rf_56_34 hR, rf_56_37 hR, rf_56_38 hR, kn_56, kn_57, kn_58, kn_59, kn_60, kn_61, kn_62, kn_63, kn_64, kn_65, kn_66, kn_67, kn_68, kn_69, kn_70, kn_71, kn_72, kn_73, kn_74, kn_75, kn_76, kn_77, kn_78, kn_79, kn_80, kn_81, kn_82, kn_83, ln_57, ln_58, ln_59, ln_60, ln_61, ln_62, ln_63, ln_64, ln_65, ln_66, ln_67, ln_68, ln_69, ln_70, ln_71, ln_72, ln_73, ln_74, ln_75, ln_76, ln_77, ln_78, ln_79, ln_80, ln_81, ln_82, ln_83, va_rf_some, push_s, push_n, nb0, nb1, nbb, Nat.reduceLT, m_inN_10_25 hp', hyy, he, hd, b2i_0, if_true, Bool.true_eq_false, if_false]
      rfl
    · by_cases hi : inT (ch pl t i) = true
      · obtain ⟨g1, g2, g3⟩ := mW_in hW ht hi
        have hi' := of_decide_eq_true hi
        have hsub : nI (ch pl t i) - 10 = nI (ch pl t i - 10) := pk_sub (b := 10) g2
        have hix := inb_nI (j := ch pl t i - 10) (n := 468) (by omega) (by decide)
        have hcl := nI_cl (n := ch pl t i - 10) (by omega)
        have hz : (0 : Int32) + nI (ch pl t i) = nI (ch pl t i) := Int32.zero_add _
        have hd : decide (10 ≤ ch pl t i ∧ ch pl t i ≤ 25) = true := hi
        rw [e_161_9]
        simp only [e_161_0, e_161_1, e_161_4, e_161_5, e_161_6, e_161_7, e_161_8, e_161_10, e_161_11, e_161_14, e_161_17, e_161_20, e_161_23, e_161_24, e_161_26, e_161_27, e_161_28, e_161_31, e_161_32, e_161_35, e_161_36, e_161_37, e_161_38, e_161_40, e_161_41, e_161_42, e_161_43, e_161_46, e_161_47, e_161_49, e_161_50, e_161_51, e_161_54, e_161_55, e_161_58, e_161_59, rf_56_0 hR, rf_56_4 hR, rf_56_5 hR, rf_56_6 hR, rf_56_7 hR, rf_56_8 hR, rf_56_9 hR, rf_56_10 hR, rf_56_11 hR, rf_56_12 hR, rf_56_14 hR, rf_56_15 hR, rf_56_19 hR, rf_56_20 hR, rf_56_21 hR, rf_56_22 hR, rf_56_23 hR, rf_56_24 hR, rf_56_25 hR, rf_56_26 hR, rf_56_27 hR, rf_56_29 hR, rf_56_32 hR, rf_56_33 hR, rf_56_34 hR, rf_56_37 hR, rf_56_38 hR, kn_56, kn_57, kn_58, kn_59, kn_60, kn_61, kn_62, kn_63, kn_64, kn_65, kn_66, kn_67, kn_68, kn_69, kn_70, kn_71, kn_72, kn_73, kn_74, kn_75, kn_76, kn_77, kn_78, kn_79, kn_80, kn_81, kn_82, kn_83, ln_57, ln_58, ln_59, ln_60, ln_61, ln_62, ln_63, ln_64, ln_65, ln_66, ln_67, ln_68, ln_69, ln_70, ln_71, ln_72, ln_73, ln_74, ln_75, ln_76, ln_77, ln_78, ln_79, ln_80, ln_81, ln_82, ln_83, va_rf_some, push_s, push_n, nb0, nb1, nbb, Nat.reduceLT, m_inN_10_25 hp, hd, hsub, hix, hcl, hz, g3, b2i_0, hyy, hcmp, he, Bool.true_eq_false, if_false]
        exact m_within_loop hR hW ht hy j (i + 1) (by omega) (fun k hk => by
          by_cases hk2 : k < i
          · exact hb k hk2
          · obtain rfl : k = i := by omega
            exact ⟨hi, he⟩)
      · have hd : decide (10 ≤ ch pl t i ∧ ch pl t i ≤ 25) = false := by simpa [inT] using hi
        have hw : wi pl t y = false := by
          cases hx : wi pl t y with
          | false => rfl
          | true =>
            exfalso
            obtain ⟨k, -, k2⟩ := wi_iff.mp hx
            by_cases hk : k < i
            · exact (hb k hk).2 k2
            · rw [ch_stop (by simpa using hi) k (by omega)] at k2
              exact he k2
        rw [e_161_9, hw]
        simp only [e_161_0, e_161_1, e_161_4, e_161_5, e_161_6, e_161_7, e_161_8, e_161_10, e_161_11, e_161_14, e_161_17, e_161_20, e_161_23, e_161_24, e_161_26, e_161_27, e_161_28, e_161_31, e_161_32, e_161_35, e_161_36, e_161_37, e_161_38, e_161_40, e_161_41, e_161_42, e_161_43, e_161_46, e_161_47, e_161_49, e_161_50, e_161_51, e_161_54, e_161_55, e_161_58, e_161_59, rf_56_0 hR, rf_56_4 hR, rf_56_5 hR, rf_56_6 hR, rf_56_7 hR, rf_56_8 hR, rf_56_9 hR, rf_56_10 hR, rf_56_11 hR, rf_56_12 hR, rf_56_14 hR, rf_56_15 hR, rf_56_19 hR, rf_56_20 hR, rf_56_21 hR, rf_56_22 hR, rf_56_23 hR, rf_56_24 hR, rf_56_25 hR, rf_56_26 hR, rf_56_27 hR, rf_56_29 hR, rf_56_32 hR, rf_56_33 hR, rf_56_34 hR, rf_56_37 hR, rf_56_38 hR, kn_56, kn_57, kn_58, kn_59, kn_60, kn_61, kn_62, kn_63, kn_64, kn_65, kn_66, kn_67, kn_68, kn_69, kn_70, kn_71, kn_72, kn_73, kn_74, kn_75, kn_76, kn_77, kn_78, kn_79, kn_80, kn_81, kn_82, kn_83, ln_57, ln_58, ln_59, ln_60, ln_61, ln_62, ln_63, ln_64, ln_65, ln_66, ln_67, ln_68, ln_69, ln_70, ln_71, ln_72, ln_73, ln_74, ln_75, ln_76, ln_77, ln_78, ln_79, ln_80, ln_81, ln_82, ln_83, va_rf_some, push_s, push_n, nb0, nb1, nbb, Nat.reduceLT, m_inN_10_25 hp, hd, hyy, hcmp, he, b2i_0, if_true, if_false]
        rfl
theorem m_within (hR : tRef h d R) (hW : mW I nr nt pl) {t y : Nat} (ht : t < nt) (hy : y < 16) : tEv E 161 0 [.ref 56, .int (nI t), .int (nI y), tm_dum] [] (mS I J R) Q = Q (some (b2i (wi pl t y))) (mS I J R) := by
  have h16 := Nat.lt_of_lt_of_le ht hW.2.2.2.1
  have hix := inb_nI (j := t) (n := 468) (by omega) (by decide)
  have hcl := nI_cl (n := t) (by omega)
  have hz : (0 : Int32) + nI t = nI t := Int32.zero_add _
  have h0 := (hW.2.2.2.2.1 t ht).1
  simp only [e_161_0, e_161_1, e_161_4, e_161_5, e_161_6, e_161_7, e_161_8, rf_56_0 hR, rf_56_4 hR, rf_56_5 hR, rf_56_6 hR, rf_56_7 hR, rf_56_8 hR, rf_56_9 hR, rf_56_10 hR, rf_56_11 hR, rf_56_12 hR, rf_56_14 hR, rf_56_15 hR, rf_56_19 hR, rf_56_20 hR, rf_56_21 hR, rf_56_22 hR, rf_56_23 hR, rf_56_24 hR, rf_56_25 hR, rf_56_26 hR, rf_56_27 hR, rf_56_29 hR, rf_56_32 hR, rf_56_33 hR, rf_56_34 hR, rf_56_37 hR, rf_56_38 hR, kn_56, kn_57, kn_58, kn_59, kn_60, kn_61, kn_62, kn_63, kn_64, kn_65, kn_66, kn_67, kn_68, kn_69, kn_70, kn_71, kn_72, kn_73, kn_74, kn_75, kn_76, kn_77, kn_78, kn_79, kn_80, kn_81, kn_82, kn_83, ln_57, ln_58, ln_59, ln_60, ln_61, ln_62, ln_63, ln_64, ln_65, ln_66, ln_67, ln_68, ln_69, ln_70, ln_71, ln_72, ln_73, ln_74, ln_75, ln_76, ln_77, ln_78, ln_79, ln_80, ln_81, ln_82, ln_83, va_rf_some, push_s, push_n, nb0, nb1, nbb, Nat.reduceLT, hix, hcl, hz, h0]
  exact m_within_loop hR hW ht hy 16 0 rfl (fun k hk => absurd hk (by omega))
/-- a sum over the things -/
def sm (f : Nat → Int32) : Nat → Int32
  | 0 => 0
  | n + 1 => sm f n + f n
def mtot (I : Nat → Nat → Int32) (pl : Nat → Nat) (nt t : Nat) : Int32 := sm (fun k => if (k == t || wi pl k t) = true then I 61 k else 0) nt
theorem m_total_loop (hR : tRef h d R) (hW : mW I nr nt pl) {t : Nat} (ht : t < 16) : ∀ j i acc, i + j = nt → acc = sm (fun k => if (k == t || wi pl k t) = true then I 61 k else 0) i → tEv E 162 4 [.ref 56, .int (nI t), .int acc, .int (nI i)] [] (mS I J R) Q = Q (some (mtot I pl nt t)) (mS I J R)
  | 0, i, acc, hj, ha => by
    have h16 := hW.2.2.2.1
    have hn : (nI i < nI nt) = False := by
      rw [show i = nt by omega]
      exact eq_false Int32.lt_irrefl
    rw [e_162_4]
    simp only [e_162_0, e_162_1, e_162_2, e_162_3, e_162_5, e_162_6, e_162_9, e_162_12, e_162_13, e_162_14, e_162_15, e_162_18, e_162_19, e_162_20, e_162_21, e_162_24, e_162_27, e_162_28, e_162_31, e_162_32, e_162_33, e_162_36, e_162_37, e_162_38, e_162_39, e_162_42, e_162_45, e_162_46, rf_56_0 hR, rf_56_4 hR, rf_56_5 hR, rf_56_6 hR, rf_56_7 hR, rf_56_8 hR, rf_56_9 hR, rf_56_10 hR, rf_56_11 hR, rf_56_12 hR, rf_56_14 hR, rf_56_15 hR, rf_56_19 hR, rf_56_20 hR, rf_56_21 hR, rf_56_22 hR, rf_56_23 hR, rf_56_24 hR, rf_56_25 hR, rf_56_26 hR, rf_56_27 hR, rf_56_29 hR, rf_56_32 hR, rf_56_33 hR, rf_56_34 hR, rf_56_37 hR, rf_56_38 hR, kn_56, kn_57, kn_58, kn_59, kn_60, kn_61, kn_62, kn_63, kn_64, kn_65, kn_66, kn_67, kn_68, kn_69, kn_70, kn_71, kn_72, kn_73, kn_74, kn_75, kn_76, kn_77, kn_78, kn_79, kn_80, kn_81, kn_82, kn_83, ln_57, ln_58, ln_59, ln_60, ln_61, ln_62, ln_63, ln_64, ln_65, ln_66, ln_67, ln_68, ln_69, ln_70, ln_71, ln_72, ln_73, ln_74, ln_75, ln_76, ln_77, ln_78, ln_79, ln_80, ln_81, ln_82, ln_83, va_rf_some, push_s, push_n, nb0, nb1, nbb, Nat.reduceLT, hW.2.1, hn, if_false]
    rw [ha, show i = nt by omega]
    rfl
  | j + 1, i, acc, hj, ha => by
    have h16 := hW.2.2.2.1
    have hn : (nI i < nI nt) = True := eq_true (nI_lt (by omega) (by omega))
    have hix := inb_nI (j := i) (n := 16) (by omega) (by decide)
    have hcl := nI_cl (n := i) (by omega)
    have heq : (nI i = nI t) = (i = t) := propext (nI_eq (by omega) (by omega))
    have ih := fun acc' e => m_total_loop hR hW ht j (i + 1) acc' (by omega) e
    rw [e_162_4]
    simp only [e_162_0, e_162_1, e_162_2, e_162_3, e_162_5, e_162_6, e_162_9, e_162_12, e_162_13, e_162_14, e_162_15, e_162_18, e_162_19, e_162_20, e_162_21, e_162_24, e_162_27, e_162_28, e_162_31, e_162_32, e_162_33, e_162_36, e_162_37, e_162_38, e_162_39, e_162_42, e_162_45, e_162_46, rf_56_0 hR, rf_56_4 hR, rf_56_5 hR, rf_56_6 hR, rf_56_7 hR, rf_56_8 hR, rf_56_9 hR, rf_56_10 hR, rf_56_11 hR, rf_56_12 hR, rf_56_14 hR, rf_56_15 hR, rf_56_19 hR, rf_56_20 hR, rf_56_21 hR, rf_56_22 hR, rf_56_23 hR, rf_56_24 hR, rf_56_25 hR, rf_56_26 hR, rf_56_27 hR, rf_56_29 hR, rf_56_32 hR, rf_56_33 hR, rf_56_34 hR, rf_56_37 hR, rf_56_38 hR, kn_56, kn_57, kn_58, kn_59, kn_60, kn_61, kn_62, kn_63, kn_64, kn_65, kn_66, kn_67, kn_68, kn_69, kn_70, kn_71, kn_72, kn_73, kn_74, kn_75, kn_76, kn_77, kn_78, kn_79, kn_80, kn_81, kn_82, kn_83, ln_57, ln_58, ln_59, ln_60, ln_61, ln_62, ln_63, ln_64, ln_65, ln_66, ln_67, ln_68, ln_69, ln_70, ln_71, ln_72, ln_73, ln_74, ln_75, ln_76, ln_77, ln_78, ln_79, ln_80, ln_81, ln_82, ln_83, va_rf_some, push_s, push_n, nb0, nb1, nbb, Nat.reduceLT, hW.2.1, hn, if_true, heq, m_within hR hW (show i < nt by omega) ht, hix, hcl, b2i_0, nI_1]
    by_cases h1 : i = t
    · rw [if_pos h1]
      exact ih _ (by rw [sm, ha]; simp [h1])
    · rw [if_neg h1]
      cases h2 : wi pl i t with
      | true =>
        rw [if_neg (by decide)]
        exact ih _ (by rw [sm, ha]; simp [h2])
      | false =>
        rw [if_pos rfl]
        exact ih _ (by rw [sm, ha]; simp [h1, h2])
theorem m_total (hR : tRef h d R) (hW : mW I nr nt pl) {t : Nat} (ht : t < 16) : tEv E 162 0 [.ref 56, .int (nI t), tm_dum, tm_dum] [] (mS I J R) Q = Q (some (mtot I pl nt t)) (mS I J R) := by
  simp only [e_162_0, e_162_1, e_162_2, e_162_3]
  exact m_total_loop hR hW ht nt 0 0 (by omega) rfl
end M2
