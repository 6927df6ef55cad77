/-! ===== the class: how many bits, of a set ===== -/
theorem bt_nI (y : Nat) {i : Nat} (hi : i < 32) : bt (nI y) i = y.testBit i := by
  show (BitVec.ofNat 32 y).getLsbD i = _
  rw [BitVec.getLsbD_ofNat, decide_eq_true hi, Bool.true_and]
theorem nI_and (a b : Nat) : nI a &&& nI b = nI (a &&& b) := by
  apply b_ext
  intro i hi
  rw [b_and, bt_nI a hi, bt_nI b hi, bt_nI _ hi, Nat.testBit_and]
theorem uS_nI {x s : Nat} (hs : s < 32) (hx : x < 2147483648) : uS (nI x) (nI s) = nI (x / 2 ^ s) := by
  apply b_ext
  intro i hi
  unfold uS
  rw [b_ushr s hs, bt_nI _ hi, Nat.testBit_div_two_pow]
  by_cases c : s + i < 32
  · rw [bt_nI x c]
    congr 1
    omega
  · rw [b_big (by omega)]
    symm
    apply Nat.testBit_lt_two_pow
    have : (2 : Nat) ^ 32 ≤ 2 ^ (i + s) := Nat.pow_le_pow_right (by decide) (by omega)
    omega
theorem jbc_nI {K : Nat} (hK : K < 65536) : jbc (nI K) = nI (nbc K) := by
  have a1 : K / 2 &&& 1431655765 ≤ K / 2 := Nat.and_le_left
  have h1 : jb1 (nI K) = nI (nq1 K) := by
    unfold jb1 nq1
    rw [show (1 : Int32) = nI 1 from rfl, show (1431655765 : Int32) = nI 1431655765 from rfl, uS_nI (by decide) (by omega), show (2 : Nat) ^ 1 = 2 from rfl, nI_and, pk_sub (by omega)]
  have l1 : nq1 K < 65536 := by unfold nq1; omega
  have b1 : nq1 K &&& 858993459 ≤ nq1 K := Nat.and_le_left
  have b2 : nq1 K / 4 &&& 858993459 ≤ nq1 K / 4 := Nat.and_le_left
  have h2 : jb2 (nI (nq1 K)) = nI (nq2 (nq1 K)) := by
    unfold jb2 nq2
    rw [show (2 : Int32) = nI 2 from rfl, show (858993459 : Int32) = nI 858993459 from rfl, uS_nI (by decide) (by omega), nI_and, nI_and, nI_add]
  have l2 : nq2 (nq1 K) < 131072 := by unfold nq2; omega
  have c1 : nq2 (nq1 K) + nq2 (nq1 K) / 16 &&& 252645135 ≤ nq2 (nq1 K) + nq2 (nq1 K) / 16 := Nat.and_le_left
  have h3 : jb3 (nI (nq2 (nq1 K))) = nI (nq3 (nq2 (nq1 K))) := by
    unfold jb3 nq3
    rw [show (4 : Int32) = nI 4 from rfl, show (252645135 : Int32) = nI 252645135 from rfl, uS_nI (by decide) (by omega), nI_add, nI_and]
  have l3 : nq3 (nq2 (nq1 K)) < 262144 := by unfold nq3; omega
  have h4 : jb4 (nI (nq3 (nq2 (nq1 K)))) = nI (nq4 (nq3 (nq2 (nq1 K)))) := by
    unfold jb4 nq4
    rw [show (8 : Int32) = nI 8 from rfl, uS_nI (by decide) (by omega), nI_add]
  have l4 : nq4 (nq3 (nq2 (nq1 K))) < 524288 := by unfold nq4; omega
  have h5 : jb5 (nI (nq4 (nq3 (nq2 (nq1 K))))) = nI (nq5 (nq4 (nq3 (nq2 (nq1 K))))) := by
    unfold jb5 nq5
    rw [show (16 : Int32) = nI 16 from rfl, uS_nI (by decide) (by omega), nI_add]
  unfold jbc nbc
  rw [h1, h2, h3, h4, h5, show (63 : Int32) = nI 63 from rfl, nI_and]
theorem tb_mod (x i : Nat) : x / 2 ^ i % 2 = if x.testBit i = true then 1 else 0 := by
  rw [← Nat.toNat_testBit]
  cases x.testBit i <;> rfl
theorem jbc_ct {x : Int32} (h : ∀ i, 16 ≤ i → i < 32 → bt x i = false) : jbc x = nI (ct (bt x) 16) := by
  have hx : x = nI x.toBitVec.toNat := by
    apply Int32.toBitVec_inj.mp
    show x.toBitVec = BitVec.ofNat 32 x.toBitVec.toNat
    rw [BitVec.ofNat_toNat, BitVec.setWidth_eq]
  have hlt : x.toBitVec.toNat < 2 ^ 16 := by
    apply Nat.lt_pow_two_of_testBit
    intro i hi
    by_cases c : i < 32
    · exact h i hi c
    · exact BitVec.getLsbD_of_ge x.toBitVec i (by omega)
  have hb : ∀ i, bt x i = x.toBitVec.toNat.testBit i := fun i => rfl
  have e := nbc_try (x.toBitVec.toNat / 256) (by omega) (x.toBitVec.toNat % 256) (by omega)
  rw [Nat.div_add_mod] at e
  have key : ct (bt x) 16 = nct (x.toBitVec.toNat / 256) + nct (x.toBitVec.toNat % 256) := by
    generalize x.toBitVec.toNat = K at *
    have hh : ∀ i, i < 8 → (if bt x i = true then 1 else 0) = K % 256 / 2 ^ i % 2 := fun i hi => by
      rw [tb_mod, hb, show (256 : Nat) = 2 ^ 8 from rfl, Nat.testBit_mod_two_pow, decide_eq_true hi, Bool.true_and]
    have hg : ∀ i, i < 8 → (if bt x (i + 8) = true then 1 else 0) = K / 256 / 2 ^ i % 2 := fun i hi => by
      rw [tb_mod, hb, show (256 : Nat) = 2 ^ 8 from rfl, Nat.testBit_div_two_pow]
    have a0 := hh 0 (by decide); have a1 := hh 1 (by decide); have a2 := hh 2 (by decide); have a3 := hh 3 (by decide)
    have a4 := hh 4 (by decide); have a5 := hh 5 (by decide); have a6 := hh 6 (by decide); have a7 := hh 7 (by decide)
    have b0 := hg 0 (by decide); have b1 := hg 1 (by decide); have b2 := hg 2 (by decide); have b3 := hg 3 (by decide)
    have b4 := hg 4 (by decide); have b5 := hg 5 (by decide); have b6 := hg 6 (by decide); have b7 := hg 7 (by decide)
    simp only [ct, nct]
    simp only [Nat.reduceAdd, Nat.reducePow, Nat.div_one, Nat.zero_add] at a0 a1 a2 a3 a4 a5 a6 a7 b0 b1 b2 b3 b4 b5 b6 b7
    omega
  rw [hx, jbc_nI (by omega), e, ← hx, key]
theorem jbc_so {p : Nat → Bool} {n : Nat} (hn : n ≤ 16) : jbc (so p n) = nI (ct p n) := by
  rw [jbc_ct (fun i h1 h2 => by rw [so_bt _ (by omega) i h2, decide_eq_false (by omega), Bool.false_and])]
  congr 1
  rw [show 16 = n + (16 - n) by omega, ct_more]
  · exact ct_cong (fun k hk => by rw [so_bt _ (by omega) k (by omega), decide_eq_true hk, Bool.true_and])
  · intro i h1 h2
    rw [so_bt _ (by omega) i (by omega), decide_eq_false (by omega), Bool.false_and]
