/-! ===== the class: several bits, the lowest bit ===== -/
/-- below a lowest bit all is turned by one less -/
theorem bt_pred {x : Int32} {k : Nat} (hk : k < 32) (h1 : bt x k = true) (h2 : ∀ j, j < k → bt x j = false) : ∀ i, i < 32 → bt (x - 1) i = if i < k then true else if i = k then false else bt x i := by
  have hb : ∀ y : Int32, ∀ i, bt y i = y.toBitVec.toNat.testBit i := fun y i => rfl
  have hK : x.toBitVec.toNat % 2 ^ (k + 1) = 2 ^ k := by
    apply Nat.eq_of_testBit_eq
    intro j
    rw [Nat.testBit_mod_two_pow, Nat.testBit_two_pow, ← hb]
    by_cases e : k = j
    · subst e
      rw [h1]
      simp
    · rw [decide_eq_false e]
      by_cases q : j < k + 1
      · rw [h2 j (by omega), Bool.and_false]
      · rw [decide_eq_false q, Bool.false_and]
  have hd := Nat.div_add_mod x.toBitVec.toNat (2 ^ (k + 1))
  rw [hK] at hd
  have hp : 0 < 2 ^ k := Nat.two_pow_pos k
  have hlt : x.toBitVec.toNat < 2 ^ 32 := x.toBitVec.isLt
  have hs : (x - 1).toBitVec.toNat = 2 ^ (k + 1) * (x.toBitVec.toNat / 2 ^ (k + 1)) + (2 ^ k - 1) := by
    have e1 : (x - 1).toBitVec.toNat = (2 ^ 32 - 1 + x.toBitVec.toNat) % 2 ^ 32 := by
      rw [Int32.toBitVec_sub, BitVec.toNat_sub]
      rfl
    rw [e1]
    have : (2 ^ 32 - 1 + x.toBitVec.toNat) = 2 ^ 32 + (x.toBitVec.toNat - 1) := by omega
    rw [this, Nat.add_mod_left, Nat.mod_eq_of_lt (by omega)]
    omega
  intro i hi
  rw [hb, hs, Nat.testBit_two_pow_mul_add _ (by have : 2 ^ k < 2 ^ (k + 1) := Nat.pow_lt_pow_right (by decide) (by omega); omega)]
  by_cases c : i < k + 1
  · rw [if_pos c, Nat.testBit_two_pow_sub_one]
    by_cases c2 : i < k
    · rw [if_pos c2, decide_eq_true c2]
    · rw [if_neg c2, if_pos (by omega), decide_eq_false c2]
  · rw [if_neg c, if_neg (by omega), if_neg (by omega), hb, Nat.testBit_div_two_pow]
    congr 1
    omega
theorem c_isSeveral {E : tm_Env} {Q : Option Int32 → tm_St → Prop} {S : tm_St} {x : Int32} : tEv E 110 0 [.int x] [] S Q = Q (some (b2i (!decide (x &&& (x - 1) = 0)))) S := by
  simp only [e_110_0, e_110_1, e_110_2, e_110_3, e_110_4, e_110_5, e_110_8, e_110_9, e_110_12, e_110_13, va_rf_some, push_s, push_n, nb0, nb1, nbb, Nat.reduceLT]
  by_cases c : x &&& (x - 1) = 0 <;> simp [c, b2i]
theorem ct_less {p : Nat → Bool} {k : Nat} (hp : p k = true) : ∀ {n : Nat}, k < n → ct p n = ct (fun i => p i && !(i == k)) n + 1
  | 0, h => by omega
  | n + 1, h => by
    rw [ct, ct]
    by_cases e : n = k
    · subst e
      rw [if_pos hp, ct_cong (p := p) (q := fun i => p i && !(i == n)) (fun i hi => by
        have : (i == n) = false := by simp; omega
        rw [this]
        simp)]
      simp
    · rw [ct_less hp (show k < n by omega)]
      have : (n == k) = false := by simpa using e
      rw [this]
      simp only [Bool.not_false, Bool.and_true]
      omega
theorem sev_ct {p : Nat → Bool} {n : Nat} (hn : n ≤ 16) : (!decide (so p n &&& (so p n - 1) = 0)) = decide (1 < ct p n) := by
  cases hc : anyb p n with
  | false =>
    have hz : so p n = 0 := by rw [so_any (by omega), hc]
    have h0 := ct_0.mpr hc
    rw [hz, h0]
    decide
  | true =>
    obtain ⟨a, b, c⟩ := low_spec hc
    have hp := bt_pred (x := so p n) (k := low p n) (by omega) (by rw [so_bt _ (by omega) _ (by omega), b, decide_eq_true a]; rfl) (fun j hj => by rw [so_bt _ (by omega) _ (by omega), c j hj, Bool.and_false])
    have hand : so p n &&& (so p n - 1) = so (fun i => p i && !(i == low p n)) n := by
      apply b_ext
      intro i hi
      rw [b_and, hp i hi, so_bt _ (by omega) i hi, so_bt _ (by omega) i hi]
      by_cases e1 : i < low p n
      · rw [if_pos e1, c i e1]
        simp
      · rw [if_neg e1]
        by_cases e2 : i = low p n
        · rw [if_pos e2]
          simp [e2]
        · rw [if_neg e2]
          have : (i == low p n) = false := by simpa using e2
          rw [this]
          cases decide (i < n) <;> cases p i <;> rfl
    rw [hand, ct_less b a]
    cases hr : anyb (fun i => p i && !(i == low p n)) n with
    | true =>
      have h1 := so_nz (p := fun i => p i && !(i == low p n)) (show n ≤ 32 by omega) hr
      have h2 : ct (fun i => p i && !(i == low p n)) n ≠ 0 := fun e => by rw [ct_0.mp e] at hr; cases hr
      rw [decide_eq_false h1, decide_eq_true (by omega)]
      rfl
    | false =>
      have h1 : so (fun i => p i && !(i == low p n)) n = 0 := by rw [so_any (by omega), hr]
      rw [decide_eq_true h1, ct_0.mpr hr]
      rfl
