/-! ===== the class: the weight with you ===== -/
theorem sm_swap (g : Nat → Nat → Int32) (n : Nat) : ∀ m, sm (fun k => sm (fun j => g k j) n) m = sm (fun j => sm (fun k => g k j) m) n
  | 0 => (sm_0 (fun _ _ => rfl)).symm
  | m + 1 => by
    rw [sm, sm_swap g n m, ← sm_add]
    rfl
theorem sm_uniq {P : Nat → Prop} [DecidablePred P] {w : Int32} {k0 n : Nat} (h : k0 < n) (hP : P k0) (hu : ∀ k, k < n → P k → k = k0) : sm (fun k => if P k then w else 0) n = w := by
  refine Eq.trans (sm_cong (fun k hk => ?_)) (sm_one (f := fun _ => w) h)
  by_cases c : k = k0
  · subst c
    rw [if_pos hP, if_pos rfl]
  · rw [if_neg (fun q => c (hu k hk q)), if_neg c]
theorem mtat_30 {I : Nat → Nat → Int32} {nr nt : Nat} {pl : Nat → Nat} (hW : mW I nr nt pl) : mtat I pl nt 30 = sm (fun j => if fin pl j = 30 then I 61 j else 0) nt := by
  have h16 := hW.2.2.2.1
  have h6 := hW.2.2.1
  have e : mtat I pl nt 30 = sm (fun k => sm (fun j => if pl k = 30 ∧ (j == k || wi pl j k) = true then I 61 j else 0) nt) nt := by
    unfold mtat mtot
    refine sm_cong (fun k hk => ?_)
    by_cases c : pl k = 30
    · rw [if_pos c]
      exact sm_cong (fun j hj => by simp only [c, true_and])
    · rw [if_neg c]
      exact (sm_0 (fun j hj => if_neg (fun q => c q.1))).symm
  rw [e, sm_swap]
  refine sm_cong (fun j hj => ?_)
  obtain ⟨m, hm, ho, hb⟩ := ends_15 (Nat.lt_of_lt_of_le hj h16) (hW.2.2.2.2.2 j hj)
  have hf := fin_of (Nat.lt_of_lt_of_le hj h16) ho
  have key : ∀ k, k < nt → pl k = 30 ∧ (j == k || wi pl j k) = true → ch pl j m = 30 ∧ ((m = 0 ∧ k = j) ∨ (0 < m ∧ ch pl j (m - 1) = 10 + k)) := by
    rintro k hk ⟨h1, h2⟩
    rw [Bool.or_eq_true, beq_iff_eq] at h2
    rcases h2 with q | q
    · subst q
      have h0 : ch pl j 0 = 30 := h1
      have hm0 : m = 0 := by
        rcases Nat.eq_zero_or_pos m with z | z
        · exact z
        · have := of_decide_eq_true (hb 0 z)
          omega
      subst hm0
      exact ⟨h0, Or.inl ⟨rfl, rfl⟩⟩
    · obtain ⟨i, hi, e⟩ := wi_iff.mp q
      by_cases c : inT (ch pl j i) = true
      · have hn : ch pl j (i + 1) = 30 := by
          rw [ch, nx_in c, e, show 10 + k - 10 = k by omega, h1]
        have him : i + 1 = m := by
          rcases Nat.lt_trichotomy (i + 1) m with z | z | z
          · have := of_decide_eq_true (hb (i + 1) z)
            omega
          · exact z
          · have := ch_stop ho i (by omega)
            rw [this, ho] at c
            cases c
        rw [← him]
        exact ⟨hn, Or.inr ⟨by omega, e⟩⟩
      · have c' : inT (ch pl j i) = false := by simpa using c
        exfalso
        have c2 := of_decide_eq_false c'
        omega
  by_cases c : fin pl j = 30
  · rw [if_pos c]
    have c30 : ch pl j m = 30 := by rw [← hf, c]
    rcases Nat.eq_zero_or_pos m with z | z
    · subst z
      refine sm_uniq (P := fun k => pl k = 30 ∧ (j == k || wi pl j k) = true) (k0 := j) hj ⟨c30, by simp⟩ (fun k hk q => ?_)
      rcases (key k hk q).2 with ⟨_, a⟩ | ⟨a, _⟩
      · exact a
      · omega
    · have hin := hb (m - 1) (by omega)
      obtain ⟨g1, g2, g3⟩ := mW_in hW hj hin
      have e10 : 10 + (ch pl j (m - 1) - 10) = ch pl j (m - 1) := by omega
      refine sm_uniq (P := fun k => pl k = 30 ∧ (j == k || wi pl j k) = true) (k0 := ch pl j (m - 1) - 10) g1 ⟨?_, ?_⟩ (fun k hk q => ?_)
      · have : ch pl j (m - 1 + 1) = pl (ch pl j (m - 1) - 10) := by rw [ch, nx_in hin]
        rw [← this, show m - 1 + 1 = m by omega, c30]
      · rw [Bool.or_eq_true]
        exact Or.inr (wi_iff.mpr ⟨m - 1, by omega, e10.symm⟩)
      · rcases (key k hk q).2 with ⟨a, _⟩ | ⟨_, a⟩
        · omega
        · omega
  · rw [if_neg c]
    exact sm_0 (fun k hk => if_neg (fun q => c (by rw [hf, (key k hk q).1])))
