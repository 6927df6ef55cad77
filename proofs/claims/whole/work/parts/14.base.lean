/-! ===== the memory behind the constructors ===== -/
/-! ===== Int32 by its bits: bt x i ===== -/
def bt (x : Int32) (i : Nat) : Bool := x.toBitVec.getLsbD i
theorem b_ext {x y : Int32} (h : ∀ i, i < 32 → bt x i = bt y i) : x = y := Int32.toBitVec_inj.mp (BitVec.eq_of_getLsbD_eq (fun i hi => h i hi))
theorem b_or (x y : Int32) (i : Nat) : bt (x ||| y) i = (bt x i || bt y i) := by unfold bt; rw [Int32.toBitVec_or, BitVec.getLsbD_or]
theorem b_and (x y : Int32) (i : Nat) : bt (x &&& y) i = (bt x i && bt y i) := by unfold bt; rw [Int32.toBitVec_and, BitVec.getLsbD_and]
theorem b_xor (x y : Int32) (i : Nat) : bt (x ^^^ y) i = (bt x i ^^ bt y i) := by unfold bt; rw [Int32.toBitVec_xor, BitVec.getLsbD_xor]
theorem b_big {x : Int32} {i : Nat} (h : 32 ≤ i) : bt x i = false := BitVec.getLsbD_of_ge _ _ h
theorem b_255 (i : Nat) : bt 255 i = decide (i < 8) := by
  rcases Nat.lt_or_ge i 32 with h | h
  · exact (by decide +kernel : ∀ i, i < 32 → bt 255 i = decide (i < 8)) i h
  · rw [b_big h, decide_eq_false (by omega)]
theorem b_65535 (i : Nat) : bt 65535 i = decide (i < 16) := by
  rcases Nat.lt_or_ge i 32 with h | h
  · exact (by decide +kernel : ∀ i, i < 32 → bt 65535 i = decide (i < 16)) i h
  · rw [b_big h, decide_eq_false (by omega)]
theorem b_m1 : ∀ i, i < 32 → bt (-1) i = true := by decide +kernel
theorem b_0 (i : Nat) : bt 0 i = false := BitVec.getLsbD_zero
theorem s_l : ∀ n, n < 32 → ((nI n &&& 31).toBitVec.smod 32).toNat = n := by decide +kernel
theorem s_u : ∀ n, n < 32 → (((nI n).toUInt32 &&& Int32.toUInt32 31).toBitVec % 32).toNat = n := by decide +kernel
theorem b_shl (n : Nat) (hn : n < 32) (x : Int32) {i : Nat} (hi : i < 32) : bt (x <<< (nI n &&& 31)) i = (decide (n ≤ i) && bt x (i - n)) := by
  unfold bt
  rw [Int32.toBitVec_shiftLeft]
  show (x.toBitVec <<< ((nI n &&& 31).toBitVec.smod 32).toNat).getLsbD i = _
  rw [s_l n hn, BitVec.getLsbD_shiftLeft]
  rcases Nat.lt_or_ge i n with h | h
  · simp [h, Nat.not_le.mpr h]
  · simp [hi, h, Nat.not_lt.mpr h]
theorem b_ushr (n : Nat) (hn : n < 32) (x : Int32) (i : Nat) : bt ((x.toUInt32 >>> ((nI n).toUInt32 &&& Int32.toUInt32 31)).toInt32) i = bt x (n + i) := by
  show (x.toUInt32 >>> ((nI n).toUInt32 &&& Int32.toUInt32 31)).toBitVec.getLsbD i = x.toUInt32.toBitVec.getLsbD (n + i)
  rw [UInt32.toBitVec_shiftRight]
  show (x.toUInt32.toBitVec >>> (((nI n).toUInt32 &&& Int32.toUInt32 31).toBitVec % 32).toNat).getLsbD i = _
  rw [s_u n hn, BitVec.getLsbD_ushiftRight]
theorem b_sshr (n : Nat) (hn : n < 32) (x : Int32) {i : Nat} (hi : i < 32) : bt (x >>> (nI n &&& 31)) i = if n + i < 32 then bt x (n + i) else bt x 31 := by
  unfold bt
  rw [Int32.toBitVec_shiftRight]
  show (x.toBitVec.sshiftRight ((nI n &&& 31).toBitVec.smod 32).toNat).getLsbD i = _
  rw [s_l n hn, BitVec.getLsbD_sshiftRight, BitVec.msb_eq_getLsbD_last]
  simp [hi]
theorem b_shl8 (x : Int32) {i : Nat} (hi : i < 32) : bt (x <<< ((8 : Int32) &&& 31)) i = (decide (8 ≤ i) && bt x (i - 8)) := b_shl 8 (by omega) x hi
theorem b_shl16 (x : Int32) {i : Nat} (hi : i < 32) : bt (x <<< ((16 : Int32) &&& 31)) i = (decide (16 ≤ i) && bt x (i - 16)) := b_shl 16 (by omega) x hi
theorem b_shl24 (x : Int32) {i : Nat} (hi : i < 32) : bt (x <<< ((24 : Int32) &&& 31)) i = (decide (24 ≤ i) && bt x (i - 24)) := b_shl 24 (by omega) x hi
theorem b_sshr8 (x : Int32) {i : Nat} (hi : i < 32) : bt (x >>> ((8 : Int32) &&& 31)) i = if 8 + i < 32 then bt x (8 + i) else bt x 31 := b_sshr 8 (by omega) x hi
def tL : List (Nat × Nat) := [(10, 7), (8, 2), (12, 240), (4, 3), (3, 17), (13, 24), (13, 24), (13, 16), (13, 16), (13, 16), (13, 16), (13, 16), (9, 2), (3, 17), (13, 24), (13, 24), (13, 16), (13, 16), (13, 16), (13, 16), (13, 16), (7, 9), (13, 16), (13, 16), (0, 1), (2, 3), (16, 8), (7, 9), (13, 16), (13, 16), (7, 9), (13, 16), (13, 16), (7, 9), (13, 16), (13, 16), (7, 9), (13, 16), (13, 16), (7, 9), (13, 16), (13, 16), (7, 9), (13, 16), (13, 16), (7, 9), (13, 16), (13, 16), (7, 9), (13, 16), (13, 16), (6, 8), (13, 120), (5, 3), (5, 3), (1, 5), (11, 39), (13, 468), (13, 6), (13, 16), (13, 16), (13, 16), (13, 16), (13, 16), (13, 24), (13, 24), (13, 240), (14, 43), (14, 14), (13, 6), (13, 16), (13, 16), (13, 16), (13, 16), (13, 16), (13, 16), (13, 24), (13, 24), (13, 121), (15, 2), (13, 2), (13, 2), (13, 2), (13, 6)]
theorem kn_0 : tm_kn tL 0 = some 10 := Eq.trans rfl rfl
theorem kn_1 : tm_kn tL 1 = some 8 := Eq.trans rfl rfl
theorem kn_2 : tm_kn tL 2 = some 12 := Eq.trans rfl rfl
theorem ln_2 : tm_ln tL 2 = 240 := Eq.trans rfl rfl
theorem kn_3 : tm_kn tL 3 = some 4 := Eq.trans rfl rfl
theorem kn_4 : tm_kn tL 4 = some 3 := Eq.trans rfl rfl
theorem kn_5 : tm_kn tL 5 = some 13 := Eq.trans rfl rfl
theorem ln_5 : tm_ln tL 5 = 24 := Eq.trans rfl rfl
theorem kn_6 : tm_kn tL 6 = some 13 := Eq.trans rfl rfl
theorem ln_6 : tm_ln tL 6 = 24 := Eq.trans rfl rfl
theorem kn_7 : tm_kn tL 7 = some 13 := Eq.trans rfl rfl
theorem ln_7 : tm_ln tL 7 = 16 := Eq.trans rfl rfl
theorem kn_8 : tm_kn tL 8 = some 13 := Eq.trans rfl rfl
theorem ln_8 : tm_ln tL 8 = 16 := Eq.trans rfl rfl
theorem kn_9 : tm_kn tL 9 = some 13 := Eq.trans rfl rfl
theorem ln_9 : tm_ln tL 9 = 16 := Eq.trans rfl rfl
theorem kn_10 : tm_kn tL 10 = some 13 := Eq.trans rfl rfl
theorem ln_10 : tm_ln tL 10 = 16 := Eq.trans rfl rfl
theorem kn_11 : tm_kn tL 11 = some 13 := Eq.trans rfl rfl
theorem ln_11 : tm_ln tL 11 = 16 := Eq.trans rfl rfl
theorem kn_12 : tm_kn tL 12 = some 9 := Eq.trans rfl rfl
theorem kn_13 : tm_kn tL 13 = some 3 := Eq.trans rfl rfl
theorem kn_14 : tm_kn tL 14 = some 13 := Eq.trans rfl rfl
theorem ln_14 : tm_ln tL 14 = 24 := Eq.trans rfl rfl
theorem kn_15 : tm_kn tL 15 = some 13 := Eq.trans rfl rfl
theorem ln_15 : tm_ln tL 15 = 24 := Eq.trans rfl rfl
theorem kn_16 : tm_kn tL 16 = some 13 := Eq.trans rfl rfl
theorem ln_16 : tm_ln tL 16 = 16 := Eq.trans rfl rfl
theorem kn_17 : tm_kn tL 17 = some 13 := Eq.trans rfl rfl
theorem ln_17 : tm_ln tL 17 = 16 := Eq.trans rfl rfl
theorem kn_18 : tm_kn tL 18 = some 13 := Eq.trans rfl rfl
theorem ln_18 : tm_ln tL 18 = 16 := Eq.trans rfl rfl
theorem kn_19 : tm_kn tL 19 = some 13 := Eq.trans rfl rfl
theorem ln_19 : tm_ln tL 19 = 16 := Eq.trans rfl rfl
theorem kn_20 : tm_kn tL 20 = some 13 := Eq.trans rfl rfl
theorem ln_20 : tm_ln tL 20 = 16 := Eq.trans rfl rfl
theorem kn_21 : tm_kn tL 21 = some 7 := Eq.trans rfl rfl
theorem kn_22 : tm_kn tL 22 = some 13 := Eq.trans rfl rfl
theorem ln_22 : tm_ln tL 22 = 16 := Eq.trans rfl rfl
theorem kn_23 : tm_kn tL 23 = some 13 := Eq.trans rfl rfl
theorem ln_23 : tm_ln tL 23 = 16 := Eq.trans rfl rfl
theorem kn_24 : tm_kn tL 24 = some 0 := Eq.trans rfl rfl
theorem kn_25 : tm_kn tL 25 = some 2 := Eq.trans rfl rfl
theorem kn_26 : tm_kn tL 26 = some 16 := Eq.trans rfl rfl
theorem ln_26 : tm_ln tL 26 = 8 := Eq.trans rfl rfl
theorem kn_27 : tm_kn tL 27 = some 7 := Eq.trans rfl rfl
theorem kn_28 : tm_kn tL 28 = some 13 := Eq.trans rfl rfl
theorem ln_28 : tm_ln tL 28 = 16 := Eq.trans rfl rfl
theorem kn_29 : tm_kn tL 29 = some 13 := Eq.trans rfl rfl
theorem ln_29 : tm_ln tL 29 = 16 := Eq.trans rfl rfl
theorem kn_30 : tm_kn tL 30 = some 7 := Eq.trans rfl rfl
theorem kn_31 : tm_kn tL 31 = some 13 := Eq.trans rfl rfl
theorem ln_31 : tm_ln tL 31 = 16 := Eq.trans rfl rfl
theorem kn_32 : tm_kn tL 32 = some 13 := Eq.trans rfl rfl
theorem ln_32 : tm_ln tL 32 = 16 := Eq.trans rfl rfl
theorem kn_33 : tm_kn tL 33 = some 7 := Eq.trans rfl rfl
theorem kn_34 : tm_kn tL 34 = some 13 := Eq.trans rfl rfl
theorem ln_34 : tm_ln tL 34 = 16 := Eq.trans rfl rfl
theorem kn_35 : tm_kn tL 35 = some 13 := Eq.trans rfl rfl
theorem ln_35 : tm_ln tL 35 = 16 := Eq.trans rfl rfl
theorem kn_36 : tm_kn tL 36 = some 7 := Eq.trans rfl rfl
theorem kn_37 : tm_kn tL 37 = some 13 := Eq.trans rfl rfl
theorem ln_37 : tm_ln tL 37 = 16 := Eq.trans rfl rfl
theorem kn_38 : tm_kn tL 38 = some 13 := Eq.trans rfl rfl
theorem ln_38 : tm_ln tL 38 = 16 := Eq.trans rfl rfl
theorem kn_39 : tm_kn tL 39 = some 7 := Eq.trans rfl rfl
theorem kn_40 : tm_kn tL 40 = some 13 := Eq.trans rfl rfl
theorem ln_40 : tm_ln tL 40 = 16 := Eq.trans rfl rfl
theorem kn_41 : tm_kn tL 41 = some 13 := Eq.trans rfl rfl
theorem ln_41 : tm_ln tL 41 = 16 := Eq.trans rfl rfl
theorem kn_42 : tm_kn tL 42 = some 7 := Eq.trans rfl rfl
theorem kn_43 : tm_kn tL 43 = some 13 := Eq.trans rfl rfl
theorem ln_43 : tm_ln tL 43 = 16 := Eq.trans rfl rfl
theorem kn_44 : tm_kn tL 44 = some 13 := Eq.trans rfl rfl
theorem ln_44 : tm_ln tL 44 = 16 := Eq.trans rfl rfl
theorem kn_45 : tm_kn tL 45 = some 7 := Eq.trans rfl rfl
theorem kn_46 : tm_kn tL 46 = some 13 := Eq.trans rfl rfl
theorem ln_46 : tm_ln tL 46 = 16 := Eq.trans rfl rfl
theorem kn_47 : tm_kn tL 47 = some 13 := Eq.trans rfl rfl
theorem ln_47 : tm_ln tL 47 = 16 := Eq.trans rfl rfl
theorem kn_48 : tm_kn tL 48 = some 7 := Eq.trans rfl rfl
theorem kn_49 : tm_kn tL 49 = some 13 := Eq.trans rfl rfl
theorem ln_49 : tm_ln tL 49 = 16 := Eq.trans rfl rfl
theorem kn_50 : tm_kn tL 50 = some 13 := Eq.trans rfl rfl
theorem ln_50 : tm_ln tL 50 = 16 := Eq.trans rfl rfl
theorem kn_51 : tm_kn tL 51 = some 6 := Eq.trans rfl rfl
theorem kn_52 : tm_kn tL 52 = some 13 := Eq.trans rfl rfl
theorem ln_52 : tm_ln tL 52 = 120 := Eq.trans rfl rfl
theorem kn_53 : tm_kn tL 53 = some 5 := Eq.trans rfl rfl
theorem kn_54 : tm_kn tL 54 = some 5 := Eq.trans rfl rfl
theorem kn_55 : tm_kn tL 55 = some 1 := Eq.trans rfl rfl
theorem kn_56 : tm_kn tL 56 = some 11 := Eq.trans rfl rfl
theorem kn_57 : tm_kn tL 57 = some 13 := Eq.trans rfl rfl
theorem ln_57 : tm_ln tL 57 = 468 := Eq.trans rfl rfl
theorem kn_58 : tm_kn tL 58 = some 13 := Eq.trans rfl rfl
theorem ln_58 : tm_ln tL 58 = 6 := Eq.trans rfl rfl
theorem kn_59 : tm_kn tL 59 = some 13 := Eq.trans rfl rfl
theorem ln_59 : tm_ln tL 59 = 16 := Eq.trans rfl rfl
theorem kn_60 : tm_kn tL 60 = some 13 := Eq.trans rfl rfl
theorem ln_60 : tm_ln tL 60 = 16 := Eq.trans rfl rfl
theorem kn_61 : tm_kn tL 61 = some 13 := Eq.trans rfl rfl
theorem ln_61 : tm_ln tL 61 = 16 := Eq.trans rfl rfl
theorem kn_62 : tm_kn tL 62 = some 13 := Eq.trans rfl rfl
theorem ln_62 : tm_ln tL 62 = 16 := Eq.trans rfl rfl
theorem kn_63 : tm_kn tL 63 = some 13 := Eq.trans rfl rfl
theorem ln_63 : tm_ln tL 63 = 16 := Eq.trans rfl rfl
theorem kn_64 : tm_kn tL 64 = some 13 := Eq.trans rfl rfl
theorem ln_64 : tm_ln tL 64 = 24 := Eq.trans rfl rfl
theorem kn_65 : tm_kn tL 65 = some 13 := Eq.trans rfl rfl
theorem ln_65 : tm_ln tL 65 = 24 := Eq.trans rfl rfl
theorem kn_66 : tm_kn tL 66 = some 13 := Eq.trans rfl rfl
theorem ln_66 : tm_ln tL 66 = 240 := Eq.trans rfl rfl
theorem kn_67 : tm_kn tL 67 = some 14 := Eq.trans rfl rfl
theorem ln_67 : tm_ln tL 67 = 43 := Eq.trans rfl rfl
theorem kn_68 : tm_kn tL 68 = some 14 := Eq.trans rfl rfl
theorem ln_68 : tm_ln tL 68 = 14 := Eq.trans rfl rfl
theorem kn_69 : tm_kn tL 69 = some 13 := Eq.trans rfl rfl
theorem ln_69 : tm_ln tL 69 = 6 := Eq.trans rfl rfl
theorem kn_70 : tm_kn tL 70 = some 13 := Eq.trans rfl rfl
theorem ln_70 : tm_ln tL 70 = 16 := Eq.trans rfl rfl
theorem kn_71 : tm_kn tL 71 = some 13 := Eq.trans rfl rfl
theorem ln_71 : tm_ln tL 71 = 16 := Eq.trans rfl rfl
theorem kn_72 : tm_kn tL 72 = some 13 := Eq.trans rfl rfl
theorem ln_72 : tm_ln tL 72 = 16 := Eq.trans rfl rfl
theorem kn_73 : tm_kn tL 73 = some 13 := Eq.trans rfl rfl
theorem ln_73 : tm_ln tL 73 = 16 := Eq.trans rfl rfl
theorem kn_74 : tm_kn tL 74 = some 13 := Eq.trans rfl rfl
theorem ln_74 : tm_ln tL 74 = 16 := Eq.trans rfl rfl
theorem kn_75 : tm_kn tL 75 = some 13 := Eq.trans rfl rfl
theorem ln_75 : tm_ln tL 75 = 16 := Eq.trans rfl rfl
theorem kn_76 : tm_kn tL 76 = some 13 := Eq.trans rfl rfl
theorem ln_76 : tm_ln tL 76 = 24 := Eq.trans rfl rfl
theorem kn_77 : tm_kn tL 77 = some 13 := Eq.trans rfl rfl
theorem ln_77 : tm_ln tL 77 = 24 := Eq.trans rfl rfl
theorem kn_78 : tm_kn tL 78 = some 13 := Eq.trans rfl rfl
theorem ln_78 : tm_ln tL 78 = 121 := Eq.trans rfl rfl
theorem kn_79 : tm_kn tL 79 = some 15 := Eq.trans rfl rfl
theorem ln_79 : tm_ln tL 79 = 2 := Eq.trans rfl rfl
theorem kn_80 : tm_kn tL 80 = some 13 := Eq.trans rfl rfl
theorem ln_80 : tm_ln tL 80 = 2 := Eq.trans rfl rfl
theorem kn_81 : tm_kn tL 81 = some 13 := Eq.trans rfl rfl
theorem ln_81 : tm_ln tL 81 = 2 := Eq.trans rfl rfl
theorem kn_82 : tm_kn tL 82 = some 13 := Eq.trans rfl rfl
theorem ln_82 : tm_ln tL 82 = 2 := Eq.trans rfl rfl
theorem kn_83 : tm_kn tL 83 = some 13 := Eq.trans rfl rfl
theorem ln_83 : tm_ln tL 83 = 6 := Eq.trans rfl rfl
def tR0 (k j : Nat) : Option Nat := match k with
  | 0 => (match j with
    | 0 => some 1
    | 1 => some 3
    | 2 => some 12
    | 3 => some 24
    | 4 => some 25
    | 5 => some 51
    | 6 => some 55
    | _ => none)
  | 1 => (match j with
    | 0 => some 2
    | _ => none)
  | 3 => (match j with
    | 0 => some 1
    | 2 => some 13
    | _ => none)
  | 4 => (match j with
    | 3 => some 5
    | 4 => some 6
    | 5 => some 7
    | 6 => some 8
    | 7 => some 9
    | 8 => some 10
    | 9 => some 11
    | _ => none)
  | 12 => (match j with
    | 0 => some 4
    | 1 => some 21
    | _ => none)
  | 13 => (match j with
    | 3 => some 14
    | 4 => some 15
    | 5 => some 16
    | 6 => some 17
    | 7 => some 18
    | 8 => some 19
    | 9 => some 20
    | _ => none)
  | 21 => (match j with
    | 0 => some 22
    | 1 => some 23
    | _ => none)
  | 24 => (match j with
    | 0 => some 12
    | _ => none)
  | 25 => (match j with
    | 0 => some 26
    | _ => none)
  | 26 => (match j with
    | 0 => some 27
    | 1 => some 30
    | 2 => some 33
    | 3 => some 36
    | 4 => some 39
    | 5 => some 42
    | 6 => some 45
    | 7 => some 48
    | _ => none)
  | 27 => (match j with
    | 0 => some 28
    | 1 => some 29
    | _ => none)
  | 30 => (match j with
    | 0 => some 31
    | 1 => some 32
    | _ => none)
  | 33 => (match j with
    | 0 => some 34
    | 1 => some 35
    | _ => none)
  | 36 => (match j with
    | 0 => some 37
    | 1 => some 38
    | _ => none)
  | 39 => (match j with
    | 0 => some 40
    | 1 => some 41
    | _ => none)
  | 42 => (match j with
    | 0 => some 43
    | 1 => some 44
    | _ => none)
  | 45 => (match j with
    | 0 => some 46
    | 1 => some 47
    | _ => none)
  | 48 => (match j with
    | 0 => some 49
    | 1 => some 50
    | _ => none)
  | 51 => (match j with
    | 0 => some 1
    | 1 => some 52
    | 6 => some 53
    | 7 => some 54
    | _ => none)
  | 56 => (match j with
    | 0 => some 57
    | 4 => some 58
    | 5 => some 59
    | 6 => some 60
    | 7 => some 61
    | 8 => some 62
    | 9 => some 63
    | 10 => some 64
    | 11 => some 65
    | 12 => some 66
    | 14 => some 67
    | 15 => some 68
    | 19 => some 69
    | 20 => some 70
    | 21 => some 71
    | 22 => some 72
    | 23 => some 73
    | 24 => some 74
    | 25 => some 75
    | 26 => some 76
    | 27 => some 77
    | 29 => some 78
    | 32 => some 79
    | 33 => some 80
    | 34 => some 81
    | 37 => some 82
    | 38 => some 83
    | _ => none)
  | _ => none
/-- the references: the house that is played in is h, the draft d -/
def tRef (h d : Nat) (R : Nat → Nat → Option Nat) : Prop := R 12 0 = some h ∧ R 3 2 = some d ∧ ((h = 4 ∧ d = 13) ∨ (h = 13 ∧ d = 4)) ∧ ∀ k j, ¬ (k = 12 ∧ j = 0) → ¬ (k = 3 ∧ j = 2) → R k j = tR0 k j
theorem rf_0_0 {h d : Nat} {R : Nat → Nat → Option Nat} (hR : tRef h d R) : R 0 0 = some 1 := hR.2.2.2 0 0 (by decide) (by decide)
theorem rf_0_1 {h d : Nat} {R : Nat → Nat → Option Nat} (hR : tRef h d R) : R 0 1 = some 3 := hR.2.2.2 0 1 (by decide) (by decide)
theorem rf_0_2 {h d : Nat} {R : Nat → Nat → Option Nat} (hR : tRef h d R) : R 0 2 = some 12 := hR.2.2.2 0 2 (by decide) (by decide)
theorem rf_0_3 {h d : Nat} {R : Nat → Nat → Option Nat} (hR : tRef h d R) : R 0 3 = some 24 := hR.2.2.2 0 3 (by decide) (by decide)
theorem rf_0_4 {h d : Nat} {R : Nat → Nat → Option Nat} (hR : tRef h d R) : R 0 4 = some 25 := hR.2.2.2 0 4 (by decide) (by decide)
theorem rf_0_5 {h d : Nat} {R : Nat → Nat → Option Nat} (hR : tRef h d R) : R 0 5 = some 51 := hR.2.2.2 0 5 (by decide) (by decide)
theorem rf_0_6 {h d : Nat} {R : Nat → Nat → Option Nat} (hR : tRef h d R) : R 0 6 = some 55 := hR.2.2.2 0 6 (by decide) (by decide)
theorem rf_1_0 {h d : Nat} {R : Nat → Nat → Option Nat} (hR : tRef h d R) : R 1 0 = some 2 := hR.2.2.2 1 0 (by decide) (by decide)
theorem rf_3_0 {h d : Nat} {R : Nat → Nat → Option Nat} (hR : tRef h d R) : R 3 0 = some 1 := hR.2.2.2 3 0 (by decide) (by decide)
theorem rf_3_2 {h d : Nat} {R : Nat → Nat → Option Nat} (hR : tRef h d R) : R 3 2 = some d := hR.2.1
theorem rf_4_3 {h d : Nat} {R : Nat → Nat → Option Nat} (hR : tRef h d R) : R 4 3 = some 5 := hR.2.2.2 4 3 (by decide) (by decide)
theorem rf_4_4 {h d : Nat} {R : Nat → Nat → Option Nat} (hR : tRef h d R) : R 4 4 = some 6 := hR.2.2.2 4 4 (by decide) (by decide)
theorem rf_4_5 {h d : Nat} {R : Nat → Nat → Option Nat} (hR : tRef h d R) : R 4 5 = some 7 := hR.2.2.2 4 5 (by decide) (by decide)
theorem rf_4_6 {h d : Nat} {R : Nat → Nat → Option Nat} (hR : tRef h d R) : R 4 6 = some 8 := hR.2.2.2 4 6 (by decide) (by decide)
theorem rf_4_7 {h d : Nat} {R : Nat → Nat → Option Nat} (hR : tRef h d R) : R 4 7 = some 9 := hR.2.2.2 4 7 (by decide) (by decide)
theorem rf_4_8 {h d : Nat} {R : Nat → Nat → Option Nat} (hR : tRef h d R) : R 4 8 = some 10 := hR.2.2.2 4 8 (by decide) (by decide)
theorem rf_4_9 {h d : Nat} {R : Nat → Nat → Option Nat} (hR : tRef h d R) : R 4 9 = some 11 := hR.2.2.2 4 9 (by decide) (by decide)
theorem rf_12_1 {h d : Nat} {R : Nat → Nat → Option Nat} (hR : tRef h d R) : R 12 1 = some 21 := hR.2.2.2 12 1 (by decide) (by decide)
theorem rf_13_3 {h d : Nat} {R : Nat → Nat → Option Nat} (hR : tRef h d R) : R 13 3 = some 14 := hR.2.2.2 13 3 (by decide) (by decide)
theorem rf_13_4 {h d : Nat} {R : Nat → Nat → Option Nat} (hR : tRef h d R) : R 13 4 = some 15 := hR.2.2.2 13 4 (by decide) (by decide)
theorem rf_13_5 {h d : Nat} {R : Nat → Nat → Option Nat} (hR : tRef h d R) : R 13 5 = some 16 := hR.2.2.2 13 5 (by decide) (by decide)
theorem rf_13_6 {h d : Nat} {R : Nat → Nat → Option Nat} (hR : tRef h d R) : R 13 6 = some 17 := hR.2.2.2 13 6 (by decide) (by decide)
theorem rf_13_7 {h d : Nat} {R : Nat → Nat → Option Nat} (hR : tRef h d R) : R 13 7 = some 18 := hR.2.2.2 13 7 (by decide) (by decide)
theorem rf_13_8 {h d : Nat} {R : Nat → Nat → Option Nat} (hR : tRef h d R) : R 13 8 = some 19 := hR.2.2.2 13 8 (by decide) (by decide)
theorem rf_13_9 {h d : Nat} {R : Nat → Nat → Option Nat} (hR : tRef h d R) : R 13 9 = some 20 := hR.2.2.2 13 9 (by decide) (by decide)
theorem rf_21_0 {h d : Nat} {R : Nat → Nat → Option Nat} (hR : tRef h d R) : R 21 0 = some 22 := hR.2.2.2 21 0 (by decide) (by decide)
theorem rf_21_1 {h d : Nat} {R : Nat → Nat → Option Nat} (hR : tRef h d R) : R 21 1 = some 23 := hR.2.2.2 21 1 (by decide) (by decide)
theorem rf_24_0 {h d : Nat} {R : Nat → Nat → Option Nat} (hR : tRef h d R) : R 24 0 = some 12 := hR.2.2.2 24 0 (by decide) (by decide)
theorem rf_25_0 {h d : Nat} {R : Nat → Nat → Option Nat} (hR : tRef h d R) : R 25 0 = some 26 := hR.2.2.2 25 0 (by decide) (by decide)
theorem rf_26_0 {h d : Nat} {R : Nat → Nat → Option Nat} (hR : tRef h d R) : R 26 0 = some 27 := hR.2.2.2 26 0 (by decide) (by decide)
theorem rf_26_1 {h d : Nat} {R : Nat → Nat → Option Nat} (hR : tRef h d R) : R 26 1 = some 30 := hR.2.2.2 26 1 (by decide) (by decide)
theorem rf_26_2 {h d : Nat} {R : Nat → Nat → Option Nat} (hR : tRef h d R) : R 26 2 = some 33 := hR.2.2.2 26 2 (by decide) (by decide)
theorem rf_26_3 {h d : Nat} {R : Nat → Nat → Option Nat} (hR : tRef h d R) : R 26 3 = some 36 := hR.2.2.2 26 3 (by decide) (by decide)
theorem rf_26_4 {h d : Nat} {R : Nat → Nat → Option Nat} (hR : tRef h d R) : R 26 4 = some 39 := hR.2.2.2 26 4 (by decide) (by decide)
theorem rf_26_5 {h d : Nat} {R : Nat → Nat → Option Nat} (hR : tRef h d R) : R 26 5 = some 42 := hR.2.2.2 26 5 (by decide) (by decide)
theorem rf_26_6 {h d : Nat} {R : Nat → Nat → Option Nat} (hR : tRef h d R) : R 26 6 = some 45 := hR.2.2.2 26 6 (by decide) (by decide)
theorem rf_26_7 {h d : Nat} {R : Nat → Nat → Option Nat} (hR : tRef h d R) : R 26 7 = some 48 := hR.2.2.2 26 7 (by decide) (by decide)
theorem rf_27_0 {h d : Nat} {R : Nat → Nat → Option Nat} (hR : tRef h d R) : R 27 0 = some 28 := hR.2.2.2 27 0 (by decide) (by decide)
theorem rf_27_1 {h d : Nat} {R : Nat → Nat → Option Nat} (hR : tRef h d R) : R 27 1 = some 29 := hR.2.2.2 27 1 (by decide) (by decide)
theorem rf_30_0 {h d : Nat} {R : Nat → Nat → Option Nat} (hR : tRef h d R) : R 30 0 = some 31 := hR.2.2.2 30 0 (by decide) (by decide)
theorem rf_30_1 {h d : Nat} {R : Nat → Nat → Option Nat} (hR : tRef h d R) : R 30 1 = some 32 := hR.2.2.2 30 1 (by decide) (by decide)
theorem rf_33_0 {h d : Nat} {R : Nat → Nat → Option Nat} (hR : tRef h d R) : R 33 0 = some 34 := hR.2.2.2 33 0 (by decide) (by decide)
theorem rf_33_1 {h d : Nat} {R : Nat → Nat → Option Nat} (hR : tRef h d R) : R 33 1 = some 35 := hR.2.2.2 33 1 (by decide) (by decide)
theorem rf_36_0 {h d : Nat} {R : Nat → Nat → Option Nat} (hR : tRef h d R) : R 36 0 = some 37 := hR.2.2.2 36 0 (by decide) (by decide)
theorem rf_36_1 {h d : Nat} {R : Nat → Nat → Option Nat} (hR : tRef h d R) : R 36 1 = some 38 := hR.2.2.2 36 1 (by decide) (by decide)
theorem rf_39_0 {h d : Nat} {R : Nat → Nat → Option Nat} (hR : tRef h d R) : R 39 0 = some 40 := hR.2.2.2 39 0 (by decide) (by decide)
theorem rf_39_1 {h d : Nat} {R : Nat → Nat → Option Nat} (hR : tRef h d R) : R 39 1 = some 41 := hR.2.2.2 39 1 (by decide) (by decide)
theorem rf_42_0 {h d : Nat} {R : Nat → Nat → Option Nat} (hR : tRef h d R) : R 42 0 = some 43 := hR.2.2.2 42 0 (by decide) (by decide)
theorem rf_42_1 {h d : Nat} {R : Nat → Nat → Option Nat} (hR : tRef h d R) : R 42 1 = some 44 := hR.2.2.2 42 1 (by decide) (by decide)
theorem rf_45_0 {h d : Nat} {R : Nat → Nat → Option Nat} (hR : tRef h d R) : R 45 0 = some 46 := hR.2.2.2 45 0 (by decide) (by decide)
theorem rf_45_1 {h d : Nat} {R : Nat → Nat → Option Nat} (hR : tRef h d R) : R 45 1 = some 47 := hR.2.2.2 45 1 (by decide) (by decide)
theorem rf_48_0 {h d : Nat} {R : Nat → Nat → Option Nat} (hR : tRef h d R) : R 48 0 = some 49 := hR.2.2.2 48 0 (by decide) (by decide)
theorem rf_48_1 {h d : Nat} {R : Nat → Nat → Option Nat} (hR : tRef h d R) : R 48 1 = some 50 := hR.2.2.2 48 1 (by decide) (by decide)
theorem rf_51_0 {h d : Nat} {R : Nat → Nat → Option Nat} (hR : tRef h d R) : R 51 0 = some 1 := hR.2.2.2 51 0 (by decide) (by decide)
theorem rf_51_1 {h d : Nat} {R : Nat → Nat → Option Nat} (hR : tRef h d R) : R 51 1 = some 52 := hR.2.2.2 51 1 (by decide) (by decide)
theorem rf_51_6 {h d : Nat} {R : Nat → Nat → Option Nat} (hR : tRef h d R) : R 51 6 = some 53 := hR.2.2.2 51 6 (by decide) (by decide)
theorem rf_51_7 {h d : Nat} {R : Nat → Nat → Option Nat} (hR : tRef h d R) : R 51 7 = some 54 := hR.2.2.2 51 7 (by decide) (by decide)
theorem rf_56_0 {h d : Nat} {R : Nat → Nat → Option Nat} (hR : tRef h d R) : R 56 0 = some 57 := hR.2.2.2 56 0 (by decide) (by decide)
theorem rf_56_4 {h d : Nat} {R : Nat → Nat → Option Nat} (hR : tRef h d R) : R 56 4 = some 58 := hR.2.2.2 56 4 (by decide) (by decide)
theorem rf_56_5 {h d : Nat} {R : Nat → Nat → Option Nat} (hR : tRef h d R) : R 56 5 = some 59 := hR.2.2.2 56 5 (by decide) (by decide)
theorem rf_56_6 {h d : Nat} {R : Nat → Nat → Option Nat} (hR : tRef h d R) : R 56 6 = some 60 := hR.2.2.2 56 6 (by decide) (by decide)
theorem rf_56_7 {h d : Nat} {R : Nat → Nat → Option Nat} (hR : tRef h d R) : R 56 7 = some 61 := hR.2.2.2 56 7 (by decide) (by decide)
theorem rf_56_8 {h d : Nat} {R : Nat → Nat → Option Nat} (hR : tRef h d R) : R 56 8 = some 62 := hR.2.2.2 56 8 (by decide) (by decide)
theorem rf_56_9 {h d : Nat} {R : Nat → Nat → Option Nat} (hR : tRef h d R) : R 56 9 = some 63 := hR.2.2.2 56 9 (by decide) (by decide)
theorem rf_56_10 {h d : Nat} {R : Nat → Nat → Option Nat} (hR : tRef h d R) : R 56 10 = some 64 := hR.2.2.2 56 10 (by decide) (by decide)
theorem rf_56_11 {h d : Nat} {R : Nat → Nat → Option Nat} (hR : tRef h d R) : R 56 11 = some 65 := hR.2.2.2 56 11 (by decide) (by decide)
theorem rf_56_12 {h d : Nat} {R : Nat → Nat → Option Nat} (hR : tRef h d R) : R 56 12 = some 66 := hR.2.2.2 56 12 (by decide) (by decide)
theorem rf_56_14 {h d : Nat} {R : Nat → Nat → Option Nat} (hR : tRef h d R) : R 56 14 = some 67 := hR.2.2.2 56 14 (by decide) (by decide)
theorem rf_56_15 {h d : Nat} {R : Nat → Nat → Option Nat} (hR : tRef h d R) : R 56 15 = some 68 := hR.2.2.2 56 15 (by decide) (by decide)
theorem rf_56_19 {h d : Nat} {R : Nat → Nat → Option Nat} (hR : tRef h d R) : R 56 19 = some 69 := hR.2.2.2 56 19 (by decide) (by decide)
theorem rf_56_20 {h d : Nat} {R : Nat → Nat → Option Nat} (hR : tRef h d R) : R 56 20 = some 70 := hR.2.2.2 56 20 (by decide) (by decide)
theorem rf_56_21 {h d : Nat} {R : Nat → Nat → Option Nat} (hR : tRef h d R) : R 56 21 = some 71 := hR.2.2.2 56 21 (by decide) (by decide)
theorem rf_56_22 {h d : Nat} {R : Nat → Nat → Option Nat} (hR : tRef h d R) : R 56 22 = some 72 := hR.2.2.2 56 22 (by decide) (by decide)
theorem rf_56_23 {h d : Nat} {R : Nat → Nat → Option Nat} (hR : tRef h d R) : R 56 23 = some 73 := hR.2.2.2 56 23 (by decide) (by decide)
theorem rf_56_24 {h d : Nat} {R : Nat → Nat → Option Nat} (hR : tRef h d R) : R 56 24 = some 74 := hR.2.2.2 56 24 (by decide) (by decide)
theorem rf_56_25 {h d : Nat} {R : Nat → Nat → Option Nat} (hR : tRef h d R) : R 56 25 = some 75 := hR.2.2.2 56 25 (by decide) (by decide)
theorem rf_56_26 {h d : Nat} {R : Nat → Nat → Option Nat} (hR : tRef h d R) : R 56 26 = some 76 := hR.2.2.2 56 26 (by decide) (by decide)
theorem rf_56_27 {h d : Nat} {R : Nat → Nat → Option Nat} (hR : tRef h d R) : R 56 27 = some 77 := hR.2.2.2 56 27 (by decide) (by decide)
theorem rf_56_29 {h d : Nat} {R : Nat → Nat → Option Nat} (hR : tRef h d R) : R 56 29 = some 78 := hR.2.2.2 56 29 (by decide) (by decide)
theorem rf_56_32 {h d : Nat} {R : Nat → Nat → Option Nat} (hR : tRef h d R) : R 56 32 = some 79 := hR.2.2.2 56 32 (by decide) (by decide)
theorem rf_56_33 {h d : Nat} {R : Nat → Nat → Option Nat} (hR : tRef h d R) : R 56 33 = some 80 := hR.2.2.2 56 33 (by decide) (by decide)
theorem rf_56_34 {h d : Nat} {R : Nat → Nat → Option Nat} (hR : tRef h d R) : R 56 34 = some 81 := hR.2.2.2 56 34 (by decide) (by decide)
theorem rf_56_37 {h d : Nat} {R : Nat → Nat → Option Nat} (hR : tRef h d R) : R 56 37 = some 82 := hR.2.2.2 56 37 (by decide) (by decide)
theorem rf_56_38 {h d : Nat} {R : Nat → Nat → Option Nat} (hR : tRef h d R) : R 56 38 = some 83 := hR.2.2.2 56 38 (by decide) (by decide)
theorem rf_h_3 {h d : Nat} {R : Nat → Nat → Option Nat} (hR : tRef h d R) : R h 3 = some (h + 1) := by rcases hR.2.2.1 with ⟨rfl, -⟩ | ⟨rfl, -⟩ <;> exact hR.2.2.2 _ _ (by decide) (by decide)
theorem rf_d_3 {h d : Nat} {R : Nat → Nat → Option Nat} (hR : tRef h d R) : R d 3 = some (d + 1) := by rcases hR.2.2.1 with ⟨-, rfl⟩ | ⟨-, rfl⟩ <;> exact hR.2.2.2 _ _ (by decide) (by decide)
theorem rf_h_4 {h d : Nat} {R : Nat → Nat → Option Nat} (hR : tRef h d R) : R h 4 = some (h + 2) := by rcases hR.2.2.1 with ⟨rfl, -⟩ | ⟨rfl, -⟩ <;> exact hR.2.2.2 _ _ (by decide) (by decide)
theorem rf_d_4 {h d : Nat} {R : Nat → Nat → Option Nat} (hR : tRef h d R) : R d 4 = some (d + 2) := by rcases hR.2.2.1 with ⟨-, rfl⟩ | ⟨-, rfl⟩ <;> exact hR.2.2.2 _ _ (by decide) (by decide)
theorem rf_h_5 {h d : Nat} {R : Nat → Nat → Option Nat} (hR : tRef h d R) : R h 5 = some (h + 3) := by rcases hR.2.2.1 with ⟨rfl, -⟩ | ⟨rfl, -⟩ <;> exact hR.2.2.2 _ _ (by decide) (by decide)
theorem rf_d_5 {h d : Nat} {R : Nat → Nat → Option Nat} (hR : tRef h d R) : R d 5 = some (d + 3) := by rcases hR.2.2.1 with ⟨-, rfl⟩ | ⟨-, rfl⟩ <;> exact hR.2.2.2 _ _ (by decide) (by decide)
theorem rf_h_6 {h d : Nat} {R : Nat → Nat → Option Nat} (hR : tRef h d R) : R h 6 = some (h + 4) := by rcases hR.2.2.1 with ⟨rfl, -⟩ | ⟨rfl, -⟩ <;> exact hR.2.2.2 _ _ (by decide) (by decide)
theorem rf_d_6 {h d : Nat} {R : Nat → Nat → Option Nat} (hR : tRef h d R) : R d 6 = some (d + 4) := by rcases hR.2.2.1 with ⟨-, rfl⟩ | ⟨-, rfl⟩ <;> exact hR.2.2.2 _ _ (by decide) (by decide)
theorem rf_h_7 {h d : Nat} {R : Nat → Nat → Option Nat} (hR : tRef h d R) : R h 7 = some (h + 5) := by rcases hR.2.2.1 with ⟨rfl, -⟩ | ⟨rfl, -⟩ <;> exact hR.2.2.2 _ _ (by decide) (by decide)
theorem rf_d_7 {h d : Nat} {R : Nat → Nat → Option Nat} (hR : tRef h d R) : R d 7 = some (d + 5) := by rcases hR.2.2.1 with ⟨-, rfl⟩ | ⟨-, rfl⟩ <;> exact hR.2.2.2 _ _ (by decide) (by decide)
theorem rf_h_8 {h d : Nat} {R : Nat → Nat → Option Nat} (hR : tRef h d R) : R h 8 = some (h + 6) := by rcases hR.2.2.1 with ⟨rfl, -⟩ | ⟨rfl, -⟩ <;> exact hR.2.2.2 _ _ (by decide) (by decide)
theorem rf_d_8 {h d : Nat} {R : Nat → Nat → Option Nat} (hR : tRef h d R) : R d 8 = some (d + 6) := by rcases hR.2.2.1 with ⟨-, rfl⟩ | ⟨-, rfl⟩ <;> exact hR.2.2.2 _ _ (by decide) (by decide)
theorem rf_h_9 {h d : Nat} {R : Nat → Nat → Option Nat} (hR : tRef h d R) : R h 9 = some (h + 7) := by rcases hR.2.2.1 with ⟨rfl, -⟩ | ⟨rfl, -⟩ <;> exact hR.2.2.2 _ _ (by decide) (by decide)
theorem rf_d_9 {h d : Nat} {R : Nat → Nat → Option Nat} (hR : tRef h d R) : R d 9 = some (d + 7) := by rcases hR.2.2.1 with ⟨-, rfl⟩ | ⟨-, rfl⟩ <;> exact hR.2.2.2 _ _ (by decide) (by decide)
theorem rf_12_0 {h d : Nat} {R : Nat → Nat → Option Nat} (hR : tRef h d R) : R 12 0 = some h := hR.1
theorem rf_3_1 {h d : Nat} {R : Nat → Nat → Option Nat} (hR : tRef h d R) : R 3 2 = some d := hR.2.1
theorem kn_h {h d : Nat} {R : Nat → Nat → Option Nat} (hR : tRef h d R) : tm_kn tL h = some 3 := by rcases hR.2.2.1 with ⟨rfl, rfl⟩ | ⟨rfl, rfl⟩ <;> rfl
theorem lt_h {h d : Nat} {R : Nat → Nat → Option Nat} (hR : tRef h d R) : h < 1000 := by rcases hR.2.2.1 with ⟨rfl, rfl⟩ | ⟨rfl, rfl⟩ <;> decide
theorem kn_h1 {h d : Nat} {R : Nat → Nat → Option Nat} (hR : tRef h d R) : tm_kn tL (h + 1) = some 13 := by rcases hR.2.2.1 with ⟨rfl, rfl⟩ | ⟨rfl, rfl⟩ <;> rfl
theorem ln_h1 {h d : Nat} {R : Nat → Nat → Option Nat} (hR : tRef h d R) : tm_ln tL (h + 1) = 24 := by rcases hR.2.2.1 with ⟨rfl, rfl⟩ | ⟨rfl, rfl⟩ <;> rfl
theorem lt_h1 {h d : Nat} {R : Nat → Nat → Option Nat} (hR : tRef h d R) : h + 1 < 1000 := by rcases hR.2.2.1 with ⟨rfl, rfl⟩ | ⟨rfl, rfl⟩ <;> decide
theorem kn_h2 {h d : Nat} {R : Nat → Nat → Option Nat} (hR : tRef h d R) : tm_kn tL (h + 2) = some 13 := by rcases hR.2.2.1 with ⟨rfl, rfl⟩ | ⟨rfl, rfl⟩ <;> rfl
theorem ln_h2 {h d : Nat} {R : Nat → Nat → Option Nat} (hR : tRef h d R) : tm_ln tL (h + 2) = 24 := by rcases hR.2.2.1 with ⟨rfl, rfl⟩ | ⟨rfl, rfl⟩ <;> rfl
theorem lt_h2 {h d : Nat} {R : Nat → Nat → Option Nat} (hR : tRef h d R) : h + 2 < 1000 := by rcases hR.2.2.1 with ⟨rfl, rfl⟩ | ⟨rfl, rfl⟩ <;> decide
theorem kn_h3 {h d : Nat} {R : Nat → Nat → Option Nat} (hR : tRef h d R) : tm_kn tL (h + 3) = some 13 := by rcases hR.2.2.1 with ⟨rfl, rfl⟩ | ⟨rfl, rfl⟩ <;> rfl
theorem ln_h3 {h d : Nat} {R : Nat → Nat → Option Nat} (hR : tRef h d R) : tm_ln tL (h + 3) = 16 := by rcases hR.2.2.1 with ⟨rfl, rfl⟩ | ⟨rfl, rfl⟩ <;> rfl
theorem lt_h3 {h d : Nat} {R : Nat → Nat → Option Nat} (hR : tRef h d R) : h + 3 < 1000 := by rcases hR.2.2.1 with ⟨rfl, rfl⟩ | ⟨rfl, rfl⟩ <;> decide
theorem kn_h4 {h d : Nat} {R : Nat → Nat → Option Nat} (hR : tRef h d R) : tm_kn tL (h + 4) = some 13 := by rcases hR.2.2.1 with ⟨rfl, rfl⟩ | ⟨rfl, rfl⟩ <;> rfl
theorem ln_h4 {h d : Nat} {R : Nat → Nat → Option Nat} (hR : tRef h d R) : tm_ln tL (h + 4) = 16 := by rcases hR.2.2.1 with ⟨rfl, rfl⟩ | ⟨rfl, rfl⟩ <;> rfl
theorem lt_h4 {h d : Nat} {R : Nat → Nat → Option Nat} (hR : tRef h d R) : h + 4 < 1000 := by rcases hR.2.2.1 with ⟨rfl, rfl⟩ | ⟨rfl, rfl⟩ <;> decide
theorem kn_h5 {h d : Nat} {R : Nat → Nat → Option Nat} (hR : tRef h d R) : tm_kn tL (h + 5) = some 13 := by rcases hR.2.2.1 with ⟨rfl, rfl⟩ | ⟨rfl, rfl⟩ <;> rfl
theorem ln_h5 {h d : Nat} {R : Nat → Nat → Option Nat} (hR : tRef h d R) : tm_ln tL (h + 5) = 16 := by rcases hR.2.2.1 with ⟨rfl, rfl⟩ | ⟨rfl, rfl⟩ <;> rfl
theorem lt_h5 {h d : Nat} {R : Nat → Nat → Option Nat} (hR : tRef h d R) : h + 5 < 1000 := by rcases hR.2.2.1 with ⟨rfl, rfl⟩ | ⟨rfl, rfl⟩ <;> decide
theorem kn_h6 {h d : Nat} {R : Nat → Nat → Option Nat} (hR : tRef h d R) : tm_kn tL (h + 6) = some 13 := by rcases hR.2.2.1 with ⟨rfl, rfl⟩ | ⟨rfl, rfl⟩ <;> rfl
theorem ln_h6 {h d : Nat} {R : Nat → Nat → Option Nat} (hR : tRef h d R) : tm_ln tL (h + 6) = 16 := by rcases hR.2.2.1 with ⟨rfl, rfl⟩ | ⟨rfl, rfl⟩ <;> rfl
theorem lt_h6 {h d : Nat} {R : Nat → Nat → Option Nat} (hR : tRef h d R) : h + 6 < 1000 := by rcases hR.2.2.1 with ⟨rfl, rfl⟩ | ⟨rfl, rfl⟩ <;> decide
theorem kn_h7 {h d : Nat} {R : Nat → Nat → Option Nat} (hR : tRef h d R) : tm_kn tL (h + 7) = some 13 := by rcases hR.2.2.1 with ⟨rfl, rfl⟩ | ⟨rfl, rfl⟩ <;> rfl
theorem ln_h7 {h d : Nat} {R : Nat → Nat → Option Nat} (hR : tRef h d R) : tm_ln tL (h + 7) = 16 := by rcases hR.2.2.1 with ⟨rfl, rfl⟩ | ⟨rfl, rfl⟩ <;> rfl
theorem lt_h7 {h d : Nat} {R : Nat → Nat → Option Nat} (hR : tRef h d R) : h + 7 < 1000 := by rcases hR.2.2.1 with ⟨rfl, rfl⟩ | ⟨rfl, rfl⟩ <;> decide
theorem kn_d {h d : Nat} {R : Nat → Nat → Option Nat} (hR : tRef h d R) : tm_kn tL d = some 3 := by rcases hR.2.2.1 with ⟨rfl, rfl⟩ | ⟨rfl, rfl⟩ <;> rfl
theorem lt_d {h d : Nat} {R : Nat → Nat → Option Nat} (hR : tRef h d R) : d < 1000 := by rcases hR.2.2.1 with ⟨rfl, rfl⟩ | ⟨rfl, rfl⟩ <;> decide
theorem kn_d1 {h d : Nat} {R : Nat → Nat → Option Nat} (hR : tRef h d R) : tm_kn tL (d + 1) = some 13 := by rcases hR.2.2.1 with ⟨rfl, rfl⟩ | ⟨rfl, rfl⟩ <;> rfl
theorem ln_d1 {h d : Nat} {R : Nat → Nat → Option Nat} (hR : tRef h d R) : tm_ln tL (d + 1) = 24 := by rcases hR.2.2.1 with ⟨rfl, rfl⟩ | ⟨rfl, rfl⟩ <;> rfl
theorem lt_d1 {h d : Nat} {R : Nat → Nat → Option Nat} (hR : tRef h d R) : d + 1 < 1000 := by rcases hR.2.2.1 with ⟨rfl, rfl⟩ | ⟨rfl, rfl⟩ <;> decide
theorem kn_d2 {h d : Nat} {R : Nat → Nat → Option Nat} (hR : tRef h d R) : tm_kn tL (d + 2) = some 13 := by rcases hR.2.2.1 with ⟨rfl, rfl⟩ | ⟨rfl, rfl⟩ <;> rfl
theorem ln_d2 {h d : Nat} {R : Nat → Nat → Option Nat} (hR : tRef h d R) : tm_ln tL (d + 2) = 24 := by rcases hR.2.2.1 with ⟨rfl, rfl⟩ | ⟨rfl, rfl⟩ <;> rfl
theorem lt_d2 {h d : Nat} {R : Nat → Nat → Option Nat} (hR : tRef h d R) : d + 2 < 1000 := by rcases hR.2.2.1 with ⟨rfl, rfl⟩ | ⟨rfl, rfl⟩ <;> decide
theorem kn_d3 {h d : Nat} {R : Nat → Nat → Option Nat} (hR : tRef h d R) : tm_kn tL (d + 3) = some 13 := by rcases hR.2.2.1 with ⟨rfl, rfl⟩ | ⟨rfl, rfl⟩ <;> rfl
theorem ln_d3 {h d : Nat} {R : Nat → Nat → Option Nat} (hR : tRef h d R) : tm_ln tL (d + 3) = 16 := by rcases hR.2.2.1 with ⟨rfl, rfl⟩ | ⟨rfl, rfl⟩ <;> rfl
theorem lt_d3 {h d : Nat} {R : Nat → Nat → Option Nat} (hR : tRef h d R) : d + 3 < 1000 := by rcases hR.2.2.1 with ⟨rfl, rfl⟩ | ⟨rfl, rfl⟩ <;> decide
theorem kn_d4 {h d : Nat} {R : Nat → Nat → Option Nat} (hR : tRef h d R) : tm_kn tL (d + 4) = some 13 := by rcases hR.2.2.1 with ⟨rfl, rfl⟩ | ⟨rfl, rfl⟩ <;> rfl
theorem ln_d4 {h d : Nat} {R : Nat → Nat → Option Nat} (hR : tRef h d R) : tm_ln tL (d + 4) = 16 := by rcases hR.2.2.1 with ⟨rfl, rfl⟩ | ⟨rfl, rfl⟩ <;> rfl
theorem lt_d4 {h d : Nat} {R : Nat → Nat → Option Nat} (hR : tRef h d R) : d + 4 < 1000 := by rcases hR.2.2.1 with ⟨rfl, rfl⟩ | ⟨rfl, rfl⟩ <;> decide
theorem kn_d5 {h d : Nat} {R : Nat → Nat → Option Nat} (hR : tRef h d R) : tm_kn tL (d + 5) = some 13 := by rcases hR.2.2.1 with ⟨rfl, rfl⟩ | ⟨rfl, rfl⟩ <;> rfl
theorem ln_d5 {h d : Nat} {R : Nat → Nat → Option Nat} (hR : tRef h d R) : tm_ln tL (d + 5) = 16 := by rcases hR.2.2.1 with ⟨rfl, rfl⟩ | ⟨rfl, rfl⟩ <;> rfl
theorem lt_d5 {h d : Nat} {R : Nat → Nat → Option Nat} (hR : tRef h d R) : d + 5 < 1000 := by rcases hR.2.2.1 with ⟨rfl, rfl⟩ | ⟨rfl, rfl⟩ <;> decide
theorem kn_d6 {h d : Nat} {R : Nat → Nat → Option Nat} (hR : tRef h d R) : tm_kn tL (d + 6) = some 13 := by rcases hR.2.2.1 with ⟨rfl, rfl⟩ | ⟨rfl, rfl⟩ <;> rfl
theorem ln_d6 {h d : Nat} {R : Nat → Nat → Option Nat} (hR : tRef h d R) : tm_ln tL (d + 6) = 16 := by rcases hR.2.2.1 with ⟨rfl, rfl⟩ | ⟨rfl, rfl⟩ <;> rfl
theorem lt_d6 {h d : Nat} {R : Nat → Nat → Option Nat} (hR : tRef h d R) : d + 6 < 1000 := by rcases hR.2.2.1 with ⟨rfl, rfl⟩ | ⟨rfl, rfl⟩ <;> decide
theorem kn_d7 {h d : Nat} {R : Nat → Nat → Option Nat} (hR : tRef h d R) : tm_kn tL (d + 7) = some 13 := by rcases hR.2.2.1 with ⟨rfl, rfl⟩ | ⟨rfl, rfl⟩ <;> rfl
theorem ln_d7 {h d : Nat} {R : Nat → Nat → Option Nat} (hR : tRef h d R) : tm_ln tL (d + 7) = 16 := by rcases hR.2.2.1 with ⟨rfl, rfl⟩ | ⟨rfl, rfl⟩ <;> rfl
theorem lt_d7 {h d : Nat} {R : Nat → Nat → Option Nat} (hR : tRef h d R) : d + 7 < 1000 := by rcases hR.2.2.1 with ⟨rfl, rfl⟩ | ⟨rfl, rfl⟩ <;> decide
/-- the state between two calls -/
abbrev mS (I : Nat → Nat → Int32) (J : Nat → Nat → Int64) (R : Nat → Nat → Option Nat) : tm_St := ((tL, I, J, R), 0, 0)
theorem va_rf_some (a : Nat) : va_rf (some a) = .ref a := Eq.trans rfl rfl
def b2i (b : Bool) : Int32 := if b = true then 1 else 0
theorem nb0 : narrow .boolean (.int 0) = .int 0 := Eq.trans rfl rfl
theorem nb1 : narrow .boolean (.int 1) = .int 1 := Eq.trans rfl rfl
theorem nbb (b : Bool) : narrow .boolean (.int (b2i b)) = .int (b2i b) := by cases b <;> rfl
theorem b2i_0 (b : Bool) : b2i b = 0 ↔ b = false := by cases b <;> simp [b2i]
theorem b2i_1 (b : Bool) : b2i b = 1 ↔ b = true := by cases b <;> simp [b2i]
theorem b2i_d (p : Prop) {d : Decidable p} : (if p then (1 : Int32) else 0) = b2i (decide p) := by by_cases h : p <;> simp [b2i, h]
theorem b2i_n (p : Prop) {d : Decidable p} : (if p then (0 : Int32) else 1) = b2i (!decide p) := by by_cases h : p <;> simp [b2i, h]
theorem ite_Q {Q : Option Int32 → tm_St → Prop} {p : Prop} {d : Decidable p} (a b : Int32) (S : tm_St) : (if p then Q (some a) S else Q (some b) S) = Q (some (if p then a else b)) S := by split <;> rfl
theorem push_s (x : Int32) (st : List Value) : tm_push (some x) st = .int x :: st := Eq.trans rfl rfl
theorem push_n (st : List Value) : tm_push none st = st := Eq.trans rfl rfl
theorem lt_zz (b : Bool) : ¬ (b2i b < 0) := by cases b <;> decide
theorem nI_cl {n : Nat} (h : n < 2147483648) : (nI n).toNatClampNeg = n := nI_clamp h
theorem inb_nI {j n : Nat} (h : j < n) (hn : n < 2147483648) : tm_inb (nI j) n = true := by
  have h1 : ¬ nI j < 0 := nI_pos (by omega)
  have h2 : (nI j).toNatClampNeg = j := nI_clamp (by omega)
  simp only [tm_inb, h1, h2, decide_false, Bool.false_or, Bool.not_eq_true', decide_eq_false_iff_not]
  omega
/-- a bit of a set -/
theorem hasv (x : Int32) {t : Nat} (h : t < 32) : (x >>> (nI t &&& 31)) &&& 1 = b2i (bt x t) := by
  apply b_ext
  intro i hi
  rw [b_and]
  have h1 : bt 1 i = decide (i = 0) := (by decide +kernel : ∀ i, i < 32 → bt 1 i = decide (i = 0)) i hi
  rw [h1]
  by_cases h0 : i = 0
  · subst h0
    rw [b_sshr t h x hi, Nat.add_zero, if_pos h]
    cases bt x t <;> decide
  · have h2 : ∀ b, bt (b2i b) i = false := by
      intro b
      cases b
      · exact b_0 i
      · show bt 1 i = false
        rw [h1]; exact decide_eq_false h0
    rw [h2, decide_eq_false h0, Bool.and_false]
theorem b_one {t i : Nat} (h : t < 32) (hi : i < 32) : bt ((1 : Int32) <<< (nI t &&& 31)) i = decide (i = t) := by
  rw [b_shl t h 1 hi]
  have h1 : bt 1 (i - t) = decide (i - t = 0) := (by decide +kernel : ∀ i, i < 32 → bt 1 i = decide (i = 0)) (i - t) (by omega)
  rw [h1]
  by_cases h2 : i = t
  · subst h2; simp
  · by_cases h3 : t ≤ i
    · have : ¬ i - t = 0 := by omega
      simp [h2, this]
    · simp [h2, h3]
/-- the set of what is so, built from 0 on -/
def so (p : Nat → Bool) : Nat → Int32
  | 0 => 0
  | n + 1 => so p n ||| (if p n = true then (1 : Int32) <<< (nI n &&& 31) else 0)
theorem so_bt (p : Nat → Bool) : ∀ {n : Nat}, n ≤ 32 → ∀ i, i < 32 → bt (so p n) i = (decide (i < n) && p i)
  | 0, _, i, _ => by simp [so, b_0]
  | n + 1, hn, i, hi => by
    rw [so, b_or, so_bt p (by omega) i hi]
    by_cases hp : p n = true
    · rw [if_pos hp, b_one (by omega) hi]
      by_cases h : i = n
      · subst h; simp [hp]
      · by_cases h2 : i < n
        · simp [h, h2, show i < n + 1 by omega]
        · simp [h, h2, show ¬ i < n + 1 by omega]
    · rw [if_neg hp, b_0]
      by_cases h : i = n
      · subst h; simp [hp]
      · by_cases h2 : i < n
        · simp [h2, show i < n + 1 by omega]
        · simp [h2, show ¬ i < n + 1 by omega]
theorem so_cong {p q : Nat → Bool} {n : Nat} (h : ∀ i, i < n → p i = q i) : so p n = so q n := by
  induction n with
  | zero => rfl
  | succ n ih => rw [so, so, ih (fun i hi => h i (by omega)), h n (by omega)]
theorem so_more {p : Nat → Bool} {n : Nat} : ∀ {m : Nat}, n ≤ m → (∀ i, n ≤ i → i < m → p i = false) → so p m = so p n := by
  intro m hm
  induction hm with
  | refl => intro _; rfl
  | step hm ih =>
    intro h
    rename_i m
    rw [so, h m hm (by omega), if_neg (by decide), ih (fun i h1 h2 => h i h1 (by omega))]
    apply b_ext
    intro i _
    rw [b_or, b_0, Bool.or_false]
theorem so_zero {p : Nat → Bool} {n : Nat} (hn : n ≤ 32) : so p n = 0 ↔ ∀ i, i < n → p i = false := by
  constructor
  · intro h i hi
    have h1 := so_bt p hn i (by omega)
    rw [h, b_0] at h1
    simpa [hi] using h1.symm
  · intro h
    rw [so_cong (q := fun _ => false) h]
    apply b_ext
    intro i hi
    rw [so_bt _ hn i hi, b_0, Bool.and_false]

