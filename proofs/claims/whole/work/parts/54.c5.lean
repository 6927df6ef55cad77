/-! ===== what lies in a thing weighs what the things in it weigh ===== -/
theorem ch_after {pl : Nat → Nat} {j y i : Nat} (hy : y < 16) (h : ch pl j i = 10 + y) : ∀ m, ch pl j (i + 1 + m) = ch pl y m
  | 0 => by
    show ch pl j (i + 1) = pl y
    rw [ch, nx_in (by unfold inT; rw [h]; exact decide_eq_true (by omega)), h]
    congr 1
    omega
  | m + 1 => by rw [show i + 1 + (m + 1) = (i + 1 + m) + 1 by omega, ch, ch_after hy h m, ch]
theorem ch_once {pl : Nat → Nat} {j y i k : Nat} (hy : y < 16) (he : ends pl y) (h1 : ch pl j i = 10 + y) (h2 : ch pl j k = 10 + y) (hk : k < 16) : ¬ i < k := fun q => by
  have := ch_after hy h1 (k - i - 1)
  rw [show i + 1 + (k - i - 1) = k by omega, h2] at this
  have w : wi pl y y = true := wi_iff.mpr ⟨k - i - 1, by omega, this.symm⟩
  rw [wi_self hy he] at w
  cases w
theorem mtat_in {I Iw : Nat → Nat → Int32} {nr nt : Nat} {pl : Nat → Nat} (hW : mW Iw nr nt pl) {y : Nat} (hy : y < nt) : mtat I pl nt (10 + y) = sm (fun j => if wi pl j y = true then I 61 j else 0) nt := by
  have h16 := hW.2.2.2.1
  have h6 := hW.2.2.1
  have hye := hW.2.2.2.2.2 y hy
  have e : mtat I pl nt (10 + y) = sm (fun k => sm (fun j => if pl k = 10 + y ∧ (j == k || wi pl j k) = true then I 61 j else 0) nt) nt := by
    unfold mtat mtot
    refine sm_cong (fun k hk => ?_)
    by_cases c : pl k = 10 + y
    · rw [if_pos c]
      exact sm_cong (fun j hj => by simp only [c, true_and])
    · rw [if_neg c]
      exact (sm_0 (fun j hj => if_neg (fun q => c q.1))).symm
  rw [e, sm_swap]
  refine sm_cong (fun j hj => ?_)
  have hcase : ∀ k, k < nt → pl k = 10 + y ∧ (j == k || wi pl j k) = true → ∃ i, i < 17 ∧ ch pl j i = 10 + y ∧ ((i = 0 ∧ k = j) ∨ (0 < i ∧ ch pl j (i - 1) = 10 + k)) := by
    rintro k hk ⟨h1, h2⟩
    rw [Bool.or_eq_true, beq_iff_eq] at h2
    rcases h2 with q | q
    · subst q
      exact ⟨0, by decide, h1, Or.inl ⟨rfl, rfl⟩⟩
    · obtain ⟨i, hi, e⟩ := wi_iff.mp q
      refine ⟨i + 1, by omega, ?_, Or.inr ⟨by omega, e⟩⟩
      rw [show i + 1 = i + 1 + 0 by omega, ch_after (by omega) e 0]
      exact h1
  obtain ⟨m, hm, ho, hb⟩ := ends_15 (Nat.lt_of_lt_of_le hj h16) (hW.2.2.2.2.2 j hj)
  have hlow : ∀ i, ch pl j i = 10 + y → i < 16 := by
    intro i hi
    rcases Nat.lt_or_ge i m with z | z
    · omega
    · have := ch_stop ho i z
      rw [this] at hi
      have := of_decide_eq_false ho
      omega
  by_cases c : wi pl j y = true
  · rw [if_pos c]
    obtain ⟨i, hi, ei⟩ := wi_iff.mp c
    have uq : ∀ k, ch pl j k = 10 + y → k = i := by
      intro k hk
      have a := ch_once (by omega) hye ei hk (hlow k hk)
      have b := ch_once (by omega) hye hk ei hi
      omega
    rcases Nat.eq_zero_or_pos i with z | z
    · subst z
      refine sm_uniq (P := fun k => pl k = 10 + y ∧ (j == k || wi pl j k) = true) (k0 := j) hj ⟨ei, by simp⟩ (fun k hk q => ?_)
      obtain ⟨i', _, e2, a⟩ := hcase k hk q
      have := uq i' e2
      rcases a with a | a
      · exact a.2
      · omega
    · have hin : inT (ch pl j (i - 1)) = true := by
        cases q : inT (ch pl j (i - 1)) with
        | true => rfl
        | false =>
          have := ch_stop q i (by omega)
          rw [ei] at this
          have c2 := of_decide_eq_false q
          omega
      obtain ⟨g1, g2, g3⟩ := mW_in hW hj hin
      have e10 : 10 + (ch pl j (i - 1) - 10) = ch pl j (i - 1) := by omega
      refine sm_uniq (P := fun k => pl k = 10 + y ∧ (j == k || wi pl j k) = true) (k0 := ch pl j (i - 1) - 10) g1 ⟨?_, ?_⟩ (fun k hk q => ?_)
      · have : ch pl j (i - 1 + 1) = pl (ch pl j (i - 1) - 10) := by rw [ch, nx_in hin]
        rw [← this, show i - 1 + 1 = i by omega, ei]
      · rw [Bool.or_eq_true]
        exact Or.inr (wi_iff.mpr ⟨i - 1, by omega, e10.symm⟩)
      · obtain ⟨i', _, e2, a⟩ := hcase k hk q
        have := uq i' e2
        subst this
        rcases a with a | a
        · omega
        · omega
  · rw [if_neg c]
    refine sm_0 (fun k hk => if_neg (fun q => c ?_))
    obtain ⟨i', _, e2, _⟩ := hcase k hk q
    exact wi_iff.mpr ⟨i', hlow i' e2, e2⟩
/-- total less its own weight -/
theorem mtat_sub {I Iw : Nat → Nat → Int32} {nr nt : Nat} {pl : Nat → Nat} (hW : mW Iw nr nt pl) {y : Nat} (hy : y < nt) : mtot I pl nt y - I 61 y = mtat I pl nt (10 + y) := by
  rw [mtot_eq hW hy, mtat_in hW hy, Int32.add_comm, Int32.add_sub_cancel]
