/-! ===== the class: the lowest bit, and how many ===== -/
theorem bt_neg {x : Int32} {k : Nat} (hk : k < 32) (h1 : bt x k = true) (h2 : ∀ j, j < k → bt x j = false) : ∀ i, i < 32 → bt (-x) i = if i < k then false else if i = k then true else !bt x i := by
  intro i hi
  have e : -x = (x - 1) ^^^ (-1) := by
    apply Int32.toBitVec_inj.mp
    rw [Int32.toBitVec_neg, Int32.toBitVec_xor, Int32.toBitVec_sub]
    show -x.toBitVec = (x.toBitVec - 1#32) ^^^ (BitVec.allOnes 32)
    rw [BitVec.xor_allOnes, BitVec.not_eq_neg_add]
    simp [BitVec.sub_eq_add_neg, BitVec.neg_add]
    rw [BitVec.add_assoc, show (1#32 + 4294967295#32) = 0#32 by decide, BitVec.add_zero]
  rw [e, b_xor, b_m1 i hi, bt_pred hk h1 h2 i hi]
  by_cases c : i < k
  · rw [if_pos c, if_pos c]; rfl
  · rw [if_neg c, if_neg c]
    by_cases c2 : i = k
    · rw [if_pos c2, if_pos c2]; rfl
    · rw [if_neg c2, if_neg c2]
      cases bt x i <;> rfl
theorem and_neg {x : Int32} {k : Nat} (hk : k < 32) (h1 : bt x k = true) (h2 : ∀ j, j < k → bt x j = false) : x &&& -x = (1 : Int32) <<< (nI k &&& 31) := by
  apply b_ext
  intro i hi
  rw [b_and, bt_neg hk h1 h2 i hi, b_one hk hi]
  by_cases c : i < k
  · rw [if_pos c, Bool.and_false, decide_eq_false (by omega)]
  · rw [if_neg c]
    by_cases c2 : i = k
    · rw [if_pos c2, c2, h1, decide_eq_true rfl]; rfl
    · rw [if_neg c2, decide_eq_false c2]
      cases bt x i <;> rfl
theorem jbc_low : ∀ k, k < 32 → jbc ((1 : Int32) <<< (nI k &&& 31) - 1) = nI k := by decide +kernel
theorem c_lowest {E : tm_Env} {Q : Option Int32 → tm_St → Prop} {M : tm_Mem} {x : Int32} (h : anyb (bt x) 16 = true) : tEv E 112 0 [.int x] [] (M, 0, 0) Q = Q (some (nI (low (bt x) 16))) (M, 0, 0) := by
  obtain ⟨a, b, c⟩ := low_spec h
  have e := and_neg (show low (bt x) 16 < 32 by omega) b c
  have j := jbc_low (low (bt x) 16) (by omega)
  simp only [e_112_0, e_112_1, e_112_2, e_112_3, e_112_4, e_112_5, e_112_6, e_112_9, va_rf_some, push_s, push_n, nb0, nb1, nbb, Nat.reduceLT, c_bitCount, e, j]
