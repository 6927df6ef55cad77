/-! ===== places: 0.. a room, 10.. in or on a thing, 30 held; the way from a thing on ===== -/
def nx (pl : Nat → Nat) (p : Nat) : Nat := if 10 ≤ p ∧ p ≤ 25 then pl (p - 10) else p
def ch (pl : Nat → Nat) (t : Nat) : Nat → Nat
  | 0 => pl t
  | n + 1 => nx pl (ch pl t n)
def inT (p : Nat) : Bool := decide (10 ≤ p ∧ p ≤ 25)
/-- where one comes to -/
def fin (pl : Nat → Nat) (t : Nat) : Nat := ch pl t 15
/-- is t in y, or in what is, and so on -/
def wi (pl : Nat → Nat) (t y : Nat) : Bool := (List.range 16).any (fun i => ch pl t i == 10 + y)
/-- is a shut one on the way -/
def hid (pl : Nat → Nat) (sh : Nat → Bool) (t : Nat) : Bool := (List.range 16).any (fun i => inT (ch pl t i) && sh (ch pl t i - 10))
def ends (pl : Nat → Nat) (t : Nat) : Prop := ∃ n, inT (ch pl t n) = false
theorem nx_out {pl : Nat → Nat} {p : Nat} (h : inT p = false) : nx pl p = p := if_neg (of_decide_eq_false h)
theorem nx_in {pl : Nat → Nat} {p : Nat} (h : inT p = true) : nx pl p = pl (p - 10) := if_pos (of_decide_eq_true h)
theorem ch_stop {pl : Nat → Nat} {t n : Nat} (h : inT (ch pl t n) = false) : ∀ m, n ≤ m → ch pl t m = ch pl t n := by
  intro m hm
  induction hm with
  | refl => rfl
  | step _ ih => rw [ch, ih, nx_out h]
/-- a step first -/
theorem ch_shift {pl : Nat → Nat} {t : Nat} (h : inT (pl t) = true) : ∀ n, ch pl t (n + 1) = ch pl (pl t - 10) n
  | 0 => nx_in h
  | n + 1 => by rw [ch, ch_shift h n, ch]
/-- the things that one meets: t itself, then those on the way -/
def chi (pl : Nat → Nat) (t : Nat) : Nat → Nat
  | 0 => t
  | n + 1 => ch pl t n - 10
theorem ch_from {pl : Nat → Nat} {t : Nat} : ∀ {n : Nat}, (∀ i, i < n → inT (ch pl t i) = true) → ∀ m, ch pl t (n + m) = ch pl (chi pl t n) m
  | 0, _, m => by rw [Nat.zero_add]; rfl
  | n + 1, h, m => by
    have h1 := h n (by omega)
    have e1 : ch pl t n = pl (chi pl t n) := by
      have := ch_from (n := n) (fun i hi => h i (by omega)) 0
      rwa [Nat.add_zero] at this
    have e2 := ch_from (n := n) (fun i hi => h i (by omega)) (m + 1)
    rw [show n + 1 + m = n + (m + 1) by omega, e2, ch_shift (by rw [← e1]; exact h1)]
    show _ = ch pl (ch pl t n - 10) m
    rw [e1]
theorem holes : ∀ (m n : Nat) (f : Nat → Nat), (∀ i, i < n → f i < m) → (∀ i j, i < j → j < n → f i ≠ f j) → n ≤ m
  | 0, n, f, h1, _ => by
    rcases Nat.eq_zero_or_pos n with h | h
    · omega
    · exact absurd (h1 0 h) (Nat.not_lt_zero _)
  | m + 1, n, f, h1, h2 => by
    by_cases hx : ∃ i, i < n ∧ f i = m
    · obtain ⟨i, hi, hfi⟩ := hx
      -- the last one takes its place
      have := holes m (n - 1) (fun k => if k = i then f (n - 1) else f k) (by
        intro k hk
        split
        · rename_i e
          have a1 := h1 (n - 1) (by omega)
          have a2 : f (n - 1) ≠ m := by
            rw [← hfi]
            exact (h2 i (n - 1) (by omega) (by omega)).symm
          omega
        · rename_i e
          have a1 := h1 k (by omega)
          have a2 : f k ≠ m := by
            rw [← hfi]
            rcases Nat.lt_or_ge k i with q | q
            · exact h2 k i q hi
            · exact (h2 i k (by omega) (by omega)).symm
          omega) (by
        intro a b hab hb
        split
        · rename_i e
          split
          · omega
          · exact (h2 b (n - 1) (by omega) (by omega)).symm
        · split
          · exact h2 a (n - 1) (by omega) (by omega)
          · exact h2 a b hab (by omega))
      omega
    · have := holes m n f (fun i hi => by
        have a1 := h1 i hi
        have a2 : f i ≠ m := fun e => hx ⟨i, hi, e⟩
        omega) h2
      omega
/-- the first end, within 16 steps -/
theorem ends_15 {pl : Nat → Nat} {t : Nat} (ht : t < 16) (h : ends pl t) : ∃ n, n ≤ 15 ∧ inT (ch pl t n) = false ∧ ∀ i, i < n → inT (ch pl t i) = true := by
  obtain ⟨m, hm⟩ := h
  obtain ⟨n, hn, hl⟩ : ∃ n, inT (ch pl t n) = false ∧ ∀ i, i < n → inT (ch pl t i) = true := by
    obtain ⟨n, h1, h2⟩ := pk_least (fun n => inT (ch pl t n) = false) ⟨m, hm⟩
    exact ⟨n, h1, fun i hi => by simpa using h2 i hi⟩
  refine ⟨n, ?_, hn, hl⟩
  rcases Nat.lt_or_ge n 16 with q | q
  · omega
  · exfalso
    have hb : ∀ i, i < n + 1 → chi pl t i < 16 := by
      intro i hi
      cases i with
      | zero => exact ht
      | succ i =>
        have h1 := of_decide_eq_true (hl i (by omega))
        show ch pl t i - 10 < 16
        omega
    have hd : ∀ i j, i < j → j < n + 1 → chi pl t i ≠ chi pl t j := by
      intro i j hij hj e
      have e1 := ch_from (n := i) (fun k hk => hl k (by omega)) (n - j)
      have e2 := ch_from (n := j) (fun k hk => hl k (by omega)) (n - j)
      rw [← e, show j + (n - j) = n by omega] at e2
      rw [e2.symm] at e1
      have h3 := hl (i + (n - j)) (by omega)
      rw [e1, hn] at h3
      cases h3
    have := holes 16 (n + 1) (chi pl t) hb hd
    omega
theorem fin_out {pl : Nat → Nat} {t : Nat} (ht : t < 16) (h : ends pl t) : inT (fin pl t) = false := by
  obtain ⟨n, h1, h2, -⟩ := ends_15 ht h
  rw [fin, ch_stop h2 15 h1]
  exact h2
theorem fin_of {pl : Nat → Nat} {t n : Nat} (ht : t < 16) (h : inT (ch pl t n) = false) : fin pl t = ch pl t n := by
  obtain ⟨m, h1, h2, -⟩ := ends_15 ht ⟨n, h⟩
  rw [fin, ch_stop h2 15 h1]
  rcases Nat.le_total m n with q | q
  · exact (ch_stop h2 n q).symm
  · exact ch_stop h m q
theorem wi_iff {pl : Nat → Nat} {t y : Nat} : wi pl t y = true ↔ ∃ i, i < 16 ∧ ch pl t i = 10 + y := by
  simp [wi]
theorem hid_iff {pl : Nat → Nat} {sh : Nat → Bool} {t : Nat} : hid pl sh t = true ↔ ∃ i, i < 16 ∧ inT (ch pl t i) = true ∧ sh (ch pl t i - 10) = true := by
  simp [hid]
