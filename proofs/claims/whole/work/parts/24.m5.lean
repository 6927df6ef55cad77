/-! ===== the model's memory: copy, minds, does, turns ===== -/
theorem vu {α : Type} (f : Nat → α) (k : Nat) (v : α) (j : Nat) : va_up f k v j = if j = k then v else f j := Eq.trans rfl rfl
theorem ud (f : Nat → Int32) (k : Nat) (x : Int32) (j : Nat) : upd f k x j = if j = k then x else f j := Eq.trans rfl rfl
theorem vu_eq {α : Type} (f : Nat → α) (k : Nat) (v : α) : va_up f k v k = v := (vu f k v k).trans (if_pos rfl)
theorem vu_vu {α : Type} (f : Nat → α) (k : Nat) (v w : α) : va_up (va_up f k v) k w = va_up f k w := by
  funext j
  rw [vu, vu, vu]
  by_cases h : j = k <;> simp [h]
theorem vu_self {α : Type} (f : Nat → α) (k : Nat) : va_up f k (f k) = f := by
  funext j
  rw [vu]
  by_cases h : j = k <;> simp [h]
theorem vu_comm {α : Type} (f : Nat → α) {k j : Nat} (h : k ≠ j) (v w : α) : va_up (va_up f k v) j w = va_up (va_up f j w) k v := by
  funext i
  simp only [vu]
  by_cases h1 : i = k
  · subst h1
    simp [h]
  · simp [h1]
theorem upd_self (f : Nat → Int32) (k : Nat) : upd f k (f k) = f := by
  funext j
  rw [ud]
  by_cases h : j = k <;> simp [h]
theorem upd_upd (f : Nat → Int32) (k : Nat) (x y : Int32) : upd (upd f k x) k y = upd f k y := by
  funext j
  rw [ud, ud, ud]
  by_cases h : j = k <;> simp [h]
def cpy (f : Nat → Int32) (a b n q : Nat) : Int32 := if b ≤ q ∧ q < b + n then f (q - b + a) else f q
theorem cpy_0 (f : Nat → Int32) (a b : Nat) : cpy f a b 0 = f := by
  funext q
  unfold cpy
  rw [if_neg (by omega)]
theorem cpy_step (f : Nat → Int32) {a b n m : Nat} (h : n < m) (hd : a + m ≤ b ∨ b + m ≤ a) : upd (cpy f a b n) (b + n) (cpy f a b n (a + n)) = cpy f a b (n + 1) := by
  funext q
  rw [ud]
  unfold cpy
  by_cases h1 : q = b + n
  · subst h1
    rw [if_pos rfl, if_neg (by omega), if_pos (by omega)]
    congr 1
    omega
  · rw [if_neg h1]
    by_cases h2 : b ≤ q ∧ q < b + n
    · rw [if_pos h2, if_pos (by omega)]
    · rw [if_neg h2, if_neg (by omega)]
/-- the eight rows moved by one, when they are full -/
def sft (f : Nat → Int32) (n q : Nat) : Int32 := if 52 ≤ q ∧ q < n then f (q + 52) else f q
theorem sft_step (f : Nat → Int32) {n : Nat} (h : 52 ≤ n) : upd (sft f n) n (sft f n (n + 52)) = sft f (n + 1) := by
  funext q
  rw [ud]
  unfold sft
  by_cases h1 : q = n
  · subst h1
    rw [if_pos rfl, if_neg (by omega), if_pos (by omega)]
  · rw [if_neg h1]
    by_cases h2 : 52 ≤ q ∧ q < n
    · rw [if_pos h2, if_pos (by omega)]
    · rw [if_neg h2, if_neg (by omega)]
def mmind (f : Nat → Int32) (u : Nat) : Nat → Int32 := if u = 8 then cpy (sft f 416) 0 416 52 else cpy f 0 (52 * (u + 1)) 52
def mnext (u : Nat) : Nat := if u = 8 then 8 else u + 1
def mdoes (f : Nat → Int32) (pl : Nat → Nat) (nt a x y : Nat) : Nat → Int32 :=
  if a = 0 ∨ a = 11 then upd f x 30
  else if a = 1 then upd f x (f 48)
  else if a = 2 ∨ a = 3 then upd f x (nI (10 + y))
  else if a = 4 then upd f (16 + x) (f (16 + x) ||| 1)
  else if a = 5 then upd f (16 + x) (f (16 + x) &&& -2)
  else if a = 6 then upd f (16 + x) (f (16 + x) ||| 2)
  else if a = 7 then upd f (16 + x) (f (16 + x) &&& -3)
  else if a = 8 then upd f (16 + x) (f (16 + x) ||| 4)
  else if a = 9 then upd f (16 + x) (f (16 + x) &&& -5)
  else upd f 51 (mman pl nt (10 + x))
def mturn (f : Nat → Int32) (n q : Nat) : Int32 :=
  if q = 49 then f 49 + 1
  else if 32 ≤ q ∧ q < 32 + n ∧ f (q - 16) &&& 4 ≠ 0 then f q - 1
  else if 16 ≤ q ∧ q < 16 + n ∧ f q &&& 4 ≠ 0 then f q &&& (if f (q + 16) - 1 = 0 then -5 else -1)
  else f q
section M5
variable {E : tm_Env} {Q : Option Int32 → tm_St → Prop} {I : Nat → Nat → Int32} {J : Nat → Nat → Int64} {R : Nat → Nat → Option Nat} {h d : Nat} {nr nt y : Nat} {pl : Nat → Nat}
theorem m_copy_loop (hR : tRef h d R) {a b : Nat} (ha : a ≤ 416) (hb : b ≤ 416) (hd : a + 52 ≤ b ∨ b + 52 ≤ a) : ∀ j i, i + j = 52 → tEv E 171 2 [.ref 56, .int (nI a), .int (nI b), .int (nI i)] [] (mS (va_up I 57 (cpy (I 57) a b i)) J R) Q = Q none (mS (va_up I 57 (cpy (I 57) a b 52)) J R)
  | 0, i, hj => by
    obtain rfl : i = 52 := by omega
    have hn : (nI 52 < (52 : Int32)) = False := eq_false (by decide)
    rw [e_171_2]
    simp only [e_171_0, e_171_1, e_171_3, e_171_5, e_171_8, e_171_9, e_171_12, e_171_13, e_171_14, e_171_15, e_171_16, e_171_19, e_171_20, e_171_21, e_171_22, e_171_23, e_171_24, e_171_27, e_171_30, rf_56_0 hR, rf_56_4 hR, rf_56_5 hR, rf_56_6 hR, rf_56_7 hR, rf_56_8 hR, rf_56_9 hR, rf_56_10 hR, rf_56_11 hR, rf_56_12 hR, rf_56_14 hR, rf_56_15 hR, rf_56_19 hR, rf_56_20 hR, rf_56_21 hR, rf_56_22 hR, rf_56_23 hR, rf_56_24 hR, rf_56_25 hR, rf_56_26 hR, rf_56_27 hR, rf_56_29 hR, rf_56_32 hR, rf_56_33 hR, rf_56_34 hR, rf_56_37 hR, rf_56_38 hR, kn_56, kn_57, kn_58, kn_59, kn_60, kn_61, kn_62, kn_63, kn_64, kn_65, kn_66, kn_67, kn_68, kn_69, kn_70, kn_71, kn_72, kn_73, kn_74, kn_75, kn_76, kn_77, kn_78, kn_79, kn_80, kn_81, kn_82, kn_83, ln_57, ln_58, ln_59, ln_60, ln_61, ln_62, ln_63, ln_64, ln_65, ln_66, ln_67, ln_68, ln_69, ln_70, ln_71, ln_72, ln_73, ln_74, ln_75, ln_76, ln_77, ln_78, ln_79, ln_80, ln_81, ln_82, ln_83, va_rf_some, push_s, push_n, nb0, nb1, nbb, Nat.reduceLT, hn, if_false]
  | j + 1, i, hj => by
    have hn : (nI i < (52 : Int32)) = True := eq_true (nI_lt (b := 52) (by omega) (by omega))
    have h1 := inb_nI (j := b + i) (n := 468) (by omega) (by decide)
    have h2 := nI_cl (n := b + i) (by omega)
    have h3 := inb_nI (j := a + i) (n := 468) (by omega) (by decide)
    have h4 := nI_cl (n := a + i) (by omega)
    have h5 : nI a + nI i = nI (a + i) := nI_add a i
    have h6 : nI b + nI i = nI (b + i) := nI_add b i
    rw [e_171_2]
    simp only [e_171_0, e_171_1, e_171_3, e_171_5, e_171_8, e_171_9, e_171_12, e_171_13, e_171_14, e_171_15, e_171_16, e_171_19, e_171_20, e_171_21, e_171_22, e_171_23, e_171_24, e_171_27, e_171_30, rf_56_0 hR, rf_56_4 hR, rf_56_5 hR, rf_56_6 hR, rf_56_7 hR, rf_56_8 hR, rf_56_9 hR, rf_56_10 hR, rf_56_11 hR, rf_56_12 hR, rf_56_14 hR, rf_56_15 hR, rf_56_19 hR, rf_56_20 hR, rf_56_21 hR, rf_56_22 hR, rf_56_23 hR, rf_56_24 hR, rf_56_25 hR, rf_56_26 hR, rf_56_27 hR, rf_56_29 hR, rf_56_32 hR, rf_56_33 hR, rf_56_34 hR, rf_56_37 hR, rf_56_38 hR, kn_56, kn_57, kn_58, kn_59, kn_60, kn_61, kn_62, kn_63, kn_64, kn_65, kn_66, kn_67, kn_68, kn_69, kn_70, kn_71, kn_72, kn_73, kn_74, kn_75, kn_76, kn_77, kn_78, kn_79, kn_80, kn_81, kn_82, kn_83, ln_57, ln_58, ln_59, ln_60, ln_61, ln_62, ln_63, ln_64, ln_65, ln_66, ln_67, ln_68, ln_69, ln_70, ln_71, ln_72, ln_73, ln_74, ln_75, ln_76, ln_77, ln_78, ln_79, ln_80, ln_81, ln_82, ln_83, va_rf_some, push_s, push_n, nb0, nb1, nbb, Nat.reduceLT, hn, if_true, h1, h2, h3, h4, h5, h6, vu_eq, vu_vu, cpy_step (I 57) (show i < 52 by omega) hd, nI_1]
    exact m_copy_loop hR ha hb hd j (i + 1) (by omega)
theorem m_copy (hR : tRef h d R) {a b : Nat} (ha : a ≤ 416) (hb : b ≤ 416) (hd : a + 52 ≤ b ∨ b + 52 ≤ a) : tEv E 171 0 [.ref 56, .int (nI a), .int (nI b), tm_dum] [] (mS I J R) Q = Q none (mS (va_up I 57 (cpy (I 57) a b 52)) J R) := by
  have := fun {Q} => m_copy_loop (E := E) (Q := Q) (J := J) (I := I) hR ha hb hd 52 0 rfl
  rw [cpy_0, vu_self] at this
  simp only [e_171_0, e_171_1]
  exact this
theorem m_minds_loop (hR : tRef h d R) {F : Nat → Int32} : ∀ j i, i + j = 416 → 52 ≤ i → tEv E 172 12 [.ref 56, .int (nI i)] [] (mS (va_up I 57 (sft F i)) J R) Q = tEv E 172 40 [.ref 56, .int (nI 416)] [] (mS (va_up I 57 (sft F 416)) J R) Q
  | 0, i, hj, _ => by
    obtain rfl : i = 416 := by omega
    have hn : (nI 416 < (416 : Int32)) = False := eq_false (by decide)
    rw [e_172_12]
    simp only [e_172_13, e_172_16, hn, if_false]
  | j + 1, i, hj, hi => by
    have hn : (nI i < (416 : Int32)) = True := eq_true (nI_lt (b := 416) (by omega) (by omega))
    have h1 := inb_nI (j := i) (n := 468) (by omega) (by decide)
    have h2 := nI_cl (n := i) (by omega)
    have h3 := inb_nI (j := i + 52) (n := 468) (by omega) (by decide)
    have h4 := nI_cl (n := i + 52) (by omega)
    have h5 : nI i + 52 = nI (i + 52) := nI_add i 52
    rw [e_172_12]
    simp only [e_172_13, e_172_16, e_172_19, e_172_20, e_172_23, e_172_24, e_172_25, e_172_28, e_172_29, e_172_31, e_172_32, e_172_33, e_172_34, e_172_37, rf_56_0 hR, rf_56_4 hR, rf_56_5 hR, rf_56_6 hR, rf_56_7 hR, rf_56_8 hR, rf_56_9 hR, rf_56_10 hR, rf_56_11 hR, rf_56_12 hR, rf_56_14 hR, rf_56_15 hR, rf_56_19 hR, rf_56_20 hR, rf_56_21 hR, rf_56_22 hR, rf_56_23 hR, rf_56_24 hR, rf_56_25 hR, rf_56_26 hR, rf_56_27 hR, rf_56_29 hR, rf_56_32 hR, rf_56_33 hR, rf_56_34 hR, rf_56_37 hR, rf_56_38 hR, kn_56, kn_57, kn_58, kn_59, kn_60, kn_61, kn_62, kn_63, kn_64, kn_65, kn_66, kn_67, kn_68, kn_69, kn_70, kn_71, kn_72, kn_73, kn_74, kn_75, kn_76, kn_77, kn_78, kn_79, kn_80, kn_81, kn_82, kn_83, ln_57, ln_58, ln_59, ln_60, ln_61, ln_62, ln_63, ln_64, ln_65, ln_66, ln_67, ln_68, ln_69, ln_70, ln_71, ln_72, ln_73, ln_74, ln_75, ln_76, ln_77, ln_78, ln_79, ln_80, ln_81, ln_82, ln_83, va_rf_some, push_s, push_n, nb0, nb1, nbb, Nat.reduceLT, hn, if_true, h1, h2, h3, h4, h5, vu_eq, vu_vu, sft_step F hi, nI_1]
    exact m_minds_loop hR j (i + 1) (by omega) (by omega)
theorem sft_52 (f : Nat → Int32) : sft f 52 = f := by
  funext q
  unfold sft
  rw [if_neg (by omega)]
theorem m_minds (hR : tRef h d R) {u : Nat} (hu : u ≤ 8) (h1 : I 56 1 = nI u) : tEv E 172 0 [.ref 56, tm_dum] [] (mS I J R) Q = Q none (mS (va_up (va_up I 56 (upd (I 56) 1 (nI (mnext u)))) 57 (mmind (I 57) u)) J R) := by
  by_cases h8 : u = 8
  · subst h8
    have := fun {Q} => m_minds_loop (E := E) (Q := Q) (J := J) (I := I) (F := I 57) hR 364 52 rfl (by decide)
    rw [sft_52, vu_self] at this
    simp only [e_172_0, e_172_1, e_172_4, e_172_6, e_172_9, e_172_11, rf_56_0 hR, rf_56_4 hR, rf_56_5 hR, rf_56_6 hR, rf_56_7 hR, rf_56_8 hR, rf_56_9 hR, rf_56_10 hR, rf_56_11 hR, rf_56_12 hR, rf_56_14 hR, rf_56_15 hR, rf_56_19 hR, rf_56_20 hR, rf_56_21 hR, rf_56_22 hR, rf_56_23 hR, rf_56_24 hR, rf_56_25 hR, rf_56_26 hR, rf_56_27 hR, rf_56_29 hR, rf_56_32 hR, rf_56_33 hR, rf_56_34 hR, rf_56_37 hR, rf_56_38 hR, kn_56, kn_57, kn_58, kn_59, kn_60, kn_61, kn_62, kn_63, kn_64, kn_65, kn_66, kn_67, kn_68, kn_69, kn_70, kn_71, kn_72, kn_73, kn_74, kn_75, kn_76, kn_77, kn_78, kn_79, kn_80, kn_81, kn_82, kn_83, ln_57, ln_58, ln_59, ln_60, ln_61, ln_62, ln_63, ln_64, ln_65, ln_66, ln_67, ln_68, ln_69, ln_70, ln_71, ln_72, ln_73, ln_74, ln_75, ln_76, ln_77, ln_78, ln_79, ln_80, ln_81, ln_82, ln_83, va_rf_some, push_s, push_n, nb0, nb1, nbb, Nat.reduceLT, h1, show nI 8 = (8 : Int32) from rfl, if_true]
    refine this.trans ?_
    have hc := fun {I : Nat → Nat → Int32} {Q} => m_copy (E := E) (Q := Q) (J := J) (I := I) hR (a := 0) (b := 416) (by decide) (by decide) (by decide)
    simp only [show (nI 0) = 0 from rfl, show (nI 416) = 416 from rfl] at hc
    simp only [e_172_40, e_172_41, e_172_42, e_172_45, e_172_46, e_172_47, e_172_50, e_172_51, e_172_52, e_172_55, e_172_56, e_172_57, e_172_60, e_172_61, e_172_62, e_172_64, e_172_65, e_172_68, e_172_69, e_172_72, rf_56_0 hR, rf_56_4 hR, rf_56_5 hR, rf_56_6 hR, rf_56_7 hR, rf_56_8 hR, rf_56_9 hR, rf_56_10 hR, rf_56_11 hR, rf_56_12 hR, rf_56_14 hR, rf_56_15 hR, rf_56_19 hR, rf_56_20 hR, rf_56_21 hR, rf_56_22 hR, rf_56_23 hR, rf_56_24 hR, rf_56_25 hR, rf_56_26 hR, rf_56_27 hR, rf_56_29 hR, rf_56_32 hR, rf_56_33 hR, rf_56_34 hR, rf_56_37 hR, rf_56_38 hR, kn_56, kn_57, kn_58, kn_59, kn_60, kn_61, kn_62, kn_63, kn_64, kn_65, kn_66, kn_67, kn_68, kn_69, kn_70, kn_71, kn_72, kn_73, kn_74, kn_75, kn_76, kn_77, kn_78, kn_79, kn_80, kn_81, kn_82, kn_83, ln_57, ln_58, ln_59, ln_60, ln_61, ln_62, ln_63, ln_64, ln_65, ln_66, ln_67, ln_68, ln_69, ln_70, ln_71, ln_72, ln_73, ln_74, ln_75, ln_76, ln_77, ln_78, ln_79, ln_80, ln_81, ln_82, ln_83, va_rf_some, push_s, push_n, nb0, nb1, nbb, Nat.reduceLT, vu_eq, vu_vu, vu, ud, Nat.reduceEqDiff, reduceIte, h1, show nI 8 = (8 : Int32) from rfl, show (8 : Int32) - 1 + 1 = 8 by decide, show (52 : Int32) * 8 = 416 by decide, hc]
    rw [vu_comm (va_up I 57 _) (k := 56) (j := 57) (by decide), vu_vu, vu_comm I (k := 57) (j := 56) (by decide), upd_upd]
    rfl
  · have hn : (nI u = 8) = False := eq_false (fun e => h8 ((nI_eq (b := 8) (by omega) (by omega)).mp e))
    have hc := fun {I : Nat → Nat → Int32} {Q} => m_copy (E := E) (Q := Q) (J := J) (I := I) hR (a := 0) (b := 52 * (u + 1)) (by decide) (by omega) (by omega)
    have h5 : (52 : Int32) * nI (u + 1) = nI (52 * (u + 1)) := nI_mul 52 (u + 1)
    have h6 : nI u + 1 = nI (u + 1) := nI_add u 1
    simp only [show (nI 0) = 0 from rfl] at hc
    simp only [e_172_0, e_172_1, e_172_4, e_172_6, e_172_50, e_172_51, e_172_52, e_172_55, e_172_56, e_172_57, e_172_60, e_172_61, e_172_62, e_172_64, e_172_65, e_172_68, e_172_69, e_172_72, rf_56_0 hR, rf_56_4 hR, rf_56_5 hR, rf_56_6 hR, rf_56_7 hR, rf_56_8 hR, rf_56_9 hR, rf_56_10 hR, rf_56_11 hR, rf_56_12 hR, rf_56_14 hR, rf_56_15 hR, rf_56_19 hR, rf_56_20 hR, rf_56_21 hR, rf_56_22 hR, rf_56_23 hR, rf_56_24 hR, rf_56_25 hR, rf_56_26 hR, rf_56_27 hR, rf_56_29 hR, rf_56_32 hR, rf_56_33 hR, rf_56_34 hR, rf_56_37 hR, rf_56_38 hR, kn_56, kn_57, kn_58, kn_59, kn_60, kn_61, kn_62, kn_63, kn_64, kn_65, kn_66, kn_67, kn_68, kn_69, kn_70, kn_71, kn_72, kn_73, kn_74, kn_75, kn_76, kn_77, kn_78, kn_79, kn_80, kn_81, kn_82, kn_83, ln_57, ln_58, ln_59, ln_60, ln_61, ln_62, ln_63, ln_64, ln_65, ln_66, ln_67, ln_68, ln_69, ln_70, ln_71, ln_72, ln_73, ln_74, ln_75, ln_76, ln_77, ln_78, ln_79, ln_80, ln_81, ln_82, ln_83, va_rf_some, push_s, push_n, nb0, nb1, nbb, Nat.reduceLT, h1, hn, if_false, vu_eq, vu_vu, vu, ud, Nat.reduceEqDiff, reduceIte, h5, h6, hc]
    unfold mnext mmind
    rw [if_neg h8, if_neg h8]
theorem m_does (hR : tRef h d R) (hW : mW I nr nt pl) {a x y : Nat} (ha : a < 12) (hx : x < nt) : tEv E 174 0 [.ref 56, .int (nI a), .int (nI x), .int (nI y)] [] (mS I J R) Q = Q none (mS (va_up I 57 (mdoes (I 57) pl nt a x y)) J R) := by
  have h16 := hW.2.2.2.1
  have hix := inb_nI (j := x) (n := 468) (by omega) (by decide)
  have hcl := nI_cl (n := x) (by omega)
  have hix1 := inb_nI (j := 16 + x) (n := 468) (by omega) (by decide)
  have hcl1 := nI_cl (n := 16 + x) (by omega)
  have hz : (0 : Int32) + nI x = nI x := Int32.zero_add _
  have h3 : (16 : Int32) + nI x = nI (16 + x) := nI_add 16 x
  have e3 : (10 : Int32) + nI y = nI (10 + y) := nI_add 10 y
  have e4 : (10 : Int32) + nI x = nI (10 + x) := nI_add 10 x
  have h48 : tm_inb 48 468 = true := by decide
  have hc48 : (48 : Int32).toNatClampNeg = 48 := by decide
  have h51 : tm_inb 51 468 = true := by decide
  have hc51 : (51 : Int32).toNatClampNeg = 51 := by decide
  have hm := fun {Q} => m_manyAt (E := E) (Q := Q) (J := J) hR hW (show 10 + x < 100 by omega)
  rcases (by omega : a = 0 ∨ a = 1 ∨ a = 2 ∨ a = 3 ∨ a = 4 ∨ a = 5 ∨ a = 6 ∨ a = 7 ∨ a = 8 ∨ a = 9 ∨ a = 10 ∨ a = 11) with rfl | rfl | rfl | rfl | rfl | rfl | rfl | rfl | rfl | rfl | rfl | rfl
  · simp only [e_174_0, e_174_64, e_174_65, e_174_68, e_174_69, e_174_70, e_174_71, e_174_73, e_174_74, e_174_77, e_174_78, e_174_81, e_174_82, e_174_83, e_174_84, e_174_85, e_174_88, e_174_90, e_174_91, e_174_92, e_174_95, e_174_96, e_174_99, e_174_100, e_174_101, e_174_102, e_174_104, e_174_105, e_174_106, e_174_107, e_174_110, e_174_111, e_174_114, e_174_116, e_174_117, e_174_118, e_174_119, e_174_120, e_174_121, e_174_122, e_174_123, e_174_126, e_174_127, e_174_130, e_174_132, e_174_133, e_174_134, e_174_135, e_174_136, e_174_138, e_174_139, e_174_140, e_174_143, e_174_144, e_174_147, e_174_149, e_174_150, e_174_151, e_174_152, e_174_153, e_174_154, e_174_155, e_174_156, e_174_159, e_174_160, e_174_163, e_174_165, e_174_166, e_174_167, e_174_168, e_174_169, e_174_171, e_174_172, e_174_173, e_174_176, e_174_177, e_174_180, e_174_182, e_174_183, e_174_184, e_174_185, e_174_186, e_174_187, e_174_188, e_174_189, e_174_192, e_174_193, e_174_196, e_174_198, e_174_199, e_174_200, e_174_201, e_174_202, e_174_204, e_174_205, e_174_206, e_174_209, e_174_210, e_174_213, e_174_215, e_174_216, e_174_218, e_174_219, e_174_220, e_174_223, e_174_224, e_174_1_0, rf_56_0 hR, rf_56_4 hR, rf_56_5 hR, rf_56_6 hR, rf_56_7 hR, rf_56_8 hR, rf_56_9 hR, rf_56_10 hR, rf_56_11 hR, rf_56_12 hR, rf_56_14 hR, rf_56_15 hR, rf_56_19 hR, rf_56_20 hR, rf_56_21 hR, rf_56_22 hR, rf_56_23 hR, rf_56_24 hR, rf_56_25 hR, rf_56_26 hR, rf_56_27 hR, rf_56_29 hR, rf_56_32 hR, rf_56_33 hR, rf_56_34 hR, rf_56_37 hR, rf_56_38 hR, kn_56, kn_57, kn_58, kn_59, kn_60, kn_61, kn_62, kn_63, kn_64, kn_65, kn_66, kn_67, kn_68, kn_69, kn_70, kn_71, kn_72, kn_73, kn_74, kn_75, kn_76, kn_77, kn_78, kn_79, kn_80, kn_81, kn_82, kn_83, ln_57, ln_58, ln_59, ln_60, ln_61, ln_62, ln_63, ln_64, ln_65, ln_66, ln_67, ln_68, ln_69, ln_70, ln_71, ln_72, ln_73, ln_74, ln_75, ln_76, ln_77, ln_78, ln_79, ln_80, ln_81, ln_82, ln_83, va_rf_some, push_s, push_n, nb0, nb1, nbb, Nat.reduceLT, hz, hix, hcl]
    rfl
  · simp only [e_174_0, e_174_64, e_174_65, e_174_68, e_174_69, e_174_70, e_174_71, e_174_73, e_174_74, e_174_77, e_174_78, e_174_81, e_174_82, e_174_83, e_174_84, e_174_85, e_174_88, e_174_90, e_174_91, e_174_92, e_174_95, e_174_96, e_174_99, e_174_100, e_174_101, e_174_102, e_174_104, e_174_105, e_174_106, e_174_107, e_174_110, e_174_111, e_174_114, e_174_116, e_174_117, e_174_118, e_174_119, e_174_120, e_174_121, e_174_122, e_174_123, e_174_126, e_174_127, e_174_130, e_174_132, e_174_133, e_174_134, e_174_135, e_174_136, e_174_138, e_174_139, e_174_140, e_174_143, e_174_144, e_174_147, e_174_149, e_174_150, e_174_151, e_174_152, e_174_153, e_174_154, e_174_155, e_174_156, e_174_159, e_174_160, e_174_163, e_174_165, e_174_166, e_174_167, e_174_168, e_174_169, e_174_171, e_174_172, e_174_173, e_174_176, e_174_177, e_174_180, e_174_182, e_174_183, e_174_184, e_174_185, e_174_186, e_174_187, e_174_188, e_174_189, e_174_192, e_174_193, e_174_196, e_174_198, e_174_199, e_174_200, e_174_201, e_174_202, e_174_204, e_174_205, e_174_206, e_174_209, e_174_210, e_174_213, e_174_215, e_174_216, e_174_218, e_174_219, e_174_220, e_174_223, e_174_224, e_174_1_1, rf_56_0 hR, rf_56_4 hR, rf_56_5 hR, rf_56_6 hR, rf_56_7 hR, rf_56_8 hR, rf_56_9 hR, rf_56_10 hR, rf_56_11 hR, rf_56_12 hR, rf_56_14 hR, rf_56_15 hR, rf_56_19 hR, rf_56_20 hR, rf_56_21 hR, rf_56_22 hR, rf_56_23 hR, rf_56_24 hR, rf_56_25 hR, rf_56_26 hR, rf_56_27 hR, rf_56_29 hR, rf_56_32 hR, rf_56_33 hR, rf_56_34 hR, rf_56_37 hR, rf_56_38 hR, kn_56, kn_57, kn_58, kn_59, kn_60, kn_61, kn_62, kn_63, kn_64, kn_65, kn_66, kn_67, kn_68, kn_69, kn_70, kn_71, kn_72, kn_73, kn_74, kn_75, kn_76, kn_77, kn_78, kn_79, kn_80, kn_81, kn_82, kn_83, ln_57, ln_58, ln_59, ln_60, ln_61, ln_62, ln_63, ln_64, ln_65, ln_66, ln_67, ln_68, ln_69, ln_70, ln_71, ln_72, ln_73, ln_74, ln_75, ln_76, ln_77, ln_78, ln_79, ln_80, ln_81, ln_82, ln_83, va_rf_some, push_s, push_n, nb0, nb1, nbb, Nat.reduceLT, hz, hix, hcl, h48, hc48]
    rfl
  · simp only [e_174_0, e_174_64, e_174_65, e_174_68, e_174_69, e_174_70, e_174_71, e_174_73, e_174_74, e_174_77, e_174_78, e_174_81, e_174_82, e_174_83, e_174_84, e_174_85, e_174_88, e_174_90, e_174_91, e_174_92, e_174_95, e_174_96, e_174_99, e_174_100, e_174_101, e_174_102, e_174_104, e_174_105, e_174_106, e_174_107, e_174_110, e_174_111, e_174_114, e_174_116, e_174_117, e_174_118, e_174_119, e_174_120, e_174_121, e_174_122, e_174_123, e_174_126, e_174_127, e_174_130, e_174_132, e_174_133, e_174_134, e_174_135, e_174_136, e_174_138, e_174_139, e_174_140, e_174_143, e_174_144, e_174_147, e_174_149, e_174_150, e_174_151, e_174_152, e_174_153, e_174_154, e_174_155, e_174_156, e_174_159, e_174_160, e_174_163, e_174_165, e_174_166, e_174_167, e_174_168, e_174_169, e_174_171, e_174_172, e_174_173, e_174_176, e_174_177, e_174_180, e_174_182, e_174_183, e_174_184, e_174_185, e_174_186, e_174_187, e_174_188, e_174_189, e_174_192, e_174_193, e_174_196, e_174_198, e_174_199, e_174_200, e_174_201, e_174_202, e_174_204, e_174_205, e_174_206, e_174_209, e_174_210, e_174_213, e_174_215, e_174_216, e_174_218, e_174_219, e_174_220, e_174_223, e_174_224, e_174_1_2, rf_56_0 hR, rf_56_4 hR, rf_56_5 hR, rf_56_6 hR, rf_56_7 hR, rf_56_8 hR, rf_56_9 hR, rf_56_10 hR, rf_56_11 hR, rf_56_12 hR, rf_56_14 hR, rf_56_15 hR, rf_56_19 hR, rf_56_20 hR, rf_56_21 hR, rf_56_22 hR, rf_56_23 hR, rf_56_24 hR, rf_56_25 hR, rf_56_26 hR, rf_56_27 hR, rf_56_29 hR, rf_56_32 hR, rf_56_33 hR, rf_56_34 hR, rf_56_37 hR, rf_56_38 hR, kn_56, kn_57, kn_58, kn_59, kn_60, kn_61, kn_62, kn_63, kn_64, kn_65, kn_66, kn_67, kn_68, kn_69, kn_70, kn_71, kn_72, kn_73, kn_74, kn_75, kn_76, kn_77, kn_78, kn_79, kn_80, kn_81, kn_82, kn_83, ln_57, ln_58, ln_59, ln_60, ln_61, ln_62, ln_63, ln_64, ln_65, ln_66, ln_67, ln_68, ln_69, ln_70, ln_71, ln_72, ln_73, ln_74, ln_75, ln_76, ln_77, ln_78, ln_79, ln_80, ln_81, ln_82, ln_83, va_rf_some, push_s, push_n, nb0, nb1, nbb, Nat.reduceLT, hz, hix, hcl, e3]
    rfl
  · simp only [e_174_0, e_174_64, e_174_65, e_174_68, e_174_69, e_174_70, e_174_71, e_174_73, e_174_74, e_174_77, e_174_78, e_174_81, e_174_82, e_174_83, e_174_84, e_174_85, e_174_88, e_174_90, e_174_91, e_174_92, e_174_95, e_174_96, e_174_99, e_174_100, e_174_101, e_174_102, e_174_104, e_174_105, e_174_106, e_174_107, e_174_110, e_174_111, e_174_114, e_174_116, e_174_117, e_174_118, e_174_119, e_174_120, e_174_121, e_174_122, e_174_123, e_174_126, e_174_127, e_174_130, e_174_132, e_174_133, e_174_134, e_174_135, e_174_136, e_174_138, e_174_139, e_174_140, e_174_143, e_174_144, e_174_147, e_174_149, e_174_150, e_174_151, e_174_152, e_174_153, e_174_154, e_174_155, e_174_156, e_174_159, e_174_160, e_174_163, e_174_165, e_174_166, e_174_167, e_174_168, e_174_169, e_174_171, e_174_172, e_174_173, e_174_176, e_174_177, e_174_180, e_174_182, e_174_183, e_174_184, e_174_185, e_174_186, e_174_187, e_174_188, e_174_189, e_174_192, e_174_193, e_174_196, e_174_198, e_174_199, e_174_200, e_174_201, e_174_202, e_174_204, e_174_205, e_174_206, e_174_209, e_174_210, e_174_213, e_174_215, e_174_216, e_174_218, e_174_219, e_174_220, e_174_223, e_174_224, e_174_1_3, rf_56_0 hR, rf_56_4 hR, rf_56_5 hR, rf_56_6 hR, rf_56_7 hR, rf_56_8 hR, rf_56_9 hR, rf_56_10 hR, rf_56_11 hR, rf_56_12 hR, rf_56_14 hR, rf_56_15 hR, rf_56_19 hR, rf_56_20 hR, rf_56_21 hR, rf_56_22 hR, rf_56_23 hR, rf_56_24 hR, rf_56_25 hR, rf_56_26 hR, rf_56_27 hR, rf_56_29 hR, rf_56_32 hR, rf_56_33 hR, rf_56_34 hR, rf_56_37 hR, rf_56_38 hR, kn_56, kn_57, kn_58, kn_59, kn_60, kn_61, kn_62, kn_63, kn_64, kn_65, kn_66, kn_67, kn_68, kn_69, kn_70, kn_71, kn_72, kn_73, kn_74, kn_75, kn_76, kn_77, kn_78, kn_79, kn_80, kn_81, kn_82, kn_83, ln_57, ln_58, ln_59, ln_60, ln_61, ln_62, ln_63, ln_64, ln_65, ln_66, ln_67, ln_68, ln_69, ln_70, ln_71, ln_72, ln_73, ln_74, ln_75, ln_76, ln_77, ln_78, ln_79, ln_80, ln_81, ln_82, ln_83, va_rf_some, push_s, push_n, nb0, nb1, nbb, Nat.reduceLT, hz, hix, hcl, e3]
    rfl
  · simp only [e_174_0, e_174_64, e_174_65, e_174_68, e_174_69, e_174_70, e_174_71, e_174_73, e_174_74, e_174_77, e_174_78, e_174_81, e_174_82, e_174_83, e_174_84, e_174_85, e_174_88, e_174_90, e_174_91, e_174_92, e_174_95, e_174_96, e_174_99, e_174_100, e_174_101, e_174_102, e_174_104, e_174_105, e_174_106, e_174_107, e_174_110, e_174_111, e_174_114, e_174_116, e_174_117, e_174_118, e_174_119, e_174_120, e_174_121, e_174_122, e_174_123, e_174_126, e_174_127, e_174_130, e_174_132, e_174_133, e_174_134, e_174_135, e_174_136, e_174_138, e_174_139, e_174_140, e_174_143, e_174_144, e_174_147, e_174_149, e_174_150, e_174_151, e_174_152, e_174_153, e_174_154, e_174_155, e_174_156, e_174_159, e_174_160, e_174_163, e_174_165, e_174_166, e_174_167, e_174_168, e_174_169, e_174_171, e_174_172, e_174_173, e_174_176, e_174_177, e_174_180, e_174_182, e_174_183, e_174_184, e_174_185, e_174_186, e_174_187, e_174_188, e_174_189, e_174_192, e_174_193, e_174_196, e_174_198, e_174_199, e_174_200, e_174_201, e_174_202, e_174_204, e_174_205, e_174_206, e_174_209, e_174_210, e_174_213, e_174_215, e_174_216, e_174_218, e_174_219, e_174_220, e_174_223, e_174_224, e_174_1_4, rf_56_0 hR, rf_56_4 hR, rf_56_5 hR, rf_56_6 hR, rf_56_7 hR, rf_56_8 hR, rf_56_9 hR, rf_56_10 hR, rf_56_11 hR, rf_56_12 hR, rf_56_14 hR, rf_56_15 hR, rf_56_19 hR, rf_56_20 hR, rf_56_21 hR, rf_56_22 hR, rf_56_23 hR, rf_56_24 hR, rf_56_25 hR, rf_56_26 hR, rf_56_27 hR, rf_56_29 hR, rf_56_32 hR, rf_56_33 hR, rf_56_34 hR, rf_56_37 hR, rf_56_38 hR, kn_56, kn_57, kn_58, kn_59, kn_60, kn_61, kn_62, kn_63, kn_64, kn_65, kn_66, kn_67, kn_68, kn_69, kn_70, kn_71, kn_72, kn_73, kn_74, kn_75, kn_76, kn_77, kn_78, kn_79, kn_80, kn_81, kn_82, kn_83, ln_57, ln_58, ln_59, ln_60, ln_61, ln_62, ln_63, ln_64, ln_65, ln_66, ln_67, ln_68, ln_69, ln_70, ln_71, ln_72, ln_73, ln_74, ln_75, ln_76, ln_77, ln_78, ln_79, ln_80, ln_81, ln_82, ln_83, va_rf_some, push_s, push_n, nb0, nb1, nbb, Nat.reduceLT, h3, hix1, hcl1]
    rfl
  · simp only [e_174_0, e_174_64, e_174_65, e_174_68, e_174_69, e_174_70, e_174_71, e_174_73, e_174_74, e_174_77, e_174_78, e_174_81, e_174_82, e_174_83, e_174_84, e_174_85, e_174_88, e_174_90, e_174_91, e_174_92, e_174_95, e_174_96, e_174_99, e_174_100, e_174_101, e_174_102, e_174_104, e_174_105, e_174_106, e_174_107, e_174_110, e_174_111, e_174_114, e_174_116, e_174_117, e_174_118, e_174_119, e_174_120, e_174_121, e_174_122, e_174_123, e_174_126, e_174_127, e_174_130, e_174_132, e_174_133, e_174_134, e_174_135, e_174_136, e_174_138, e_174_139, e_174_140, e_174_143, e_174_144, e_174_147, e_174_149, e_174_150, e_174_151, e_174_152, e_174_153, e_174_154, e_174_155, e_174_156, e_174_159, e_174_160, e_174_163, e_174_165, e_174_166, e_174_167, e_174_168, e_174_169, e_174_171, e_174_172, e_174_173, e_174_176, e_174_177, e_174_180, e_174_182, e_174_183, e_174_184, e_174_185, e_174_186, e_174_187, e_174_188, e_174_189, e_174_192, e_174_193, e_174_196, e_174_198, e_174_199, e_174_200, e_174_201, e_174_202, e_174_204, e_174_205, e_174_206, e_174_209, e_174_210, e_174_213, e_174_215, e_174_216, e_174_218, e_174_219, e_174_220, e_174_223, e_174_224, e_174_1_5, rf_56_0 hR, rf_56_4 hR, rf_56_5 hR, rf_56_6 hR, rf_56_7 hR, rf_56_8 hR, rf_56_9 hR, rf_56_10 hR, rf_56_11 hR, rf_56_12 hR, rf_56_14 hR, rf_56_15 hR, rf_56_19 hR, rf_56_20 hR, rf_56_21 hR, rf_56_22 hR, rf_56_23 hR, rf_56_24 hR, rf_56_25 hR, rf_56_26 hR, rf_56_27 hR, rf_56_29 hR, rf_56_32 hR, rf_56_33 hR, rf_56_34 hR, rf_56_37 hR, rf_56_38 hR, kn_56, kn_57, kn_58, kn_59, kn_60, kn_61, kn_62, kn_63, kn_64, kn_65, kn_66, kn_67, kn_68, kn_69, kn_70, kn_71, kn_72, kn_73, kn_74, kn_75, kn_76, kn_77, kn_78, kn_79, kn_80, kn_81, kn_82, kn_83, ln_57, ln_58, ln_59, ln_60, ln_61, ln_62, ln_63, ln_64, ln_65, ln_66, ln_67, ln_68, ln_69, ln_70, ln_71, ln_72, ln_73, ln_74, ln_75, ln_76, ln_77, ln_78, ln_79, ln_80, ln_81, ln_82, ln_83, va_rf_some, push_s, push_n, nb0, nb1, nbb, Nat.reduceLT, h3, hix1, hcl1]
    rfl
  · simp only [e_174_0, e_174_64, e_174_65, e_174_68, e_174_69, e_174_70, e_174_71, e_174_73, e_174_74, e_174_77, e_174_78, e_174_81, e_174_82, e_174_83, e_174_84, e_174_85, e_174_88, e_174_90, e_174_91, e_174_92, e_174_95, e_174_96, e_174_99, e_174_100, e_174_101, e_174_102, e_174_104, e_174_105, e_174_106, e_174_107, e_174_110, e_174_111, e_174_114, e_174_116, e_174_117, e_174_118, e_174_119, e_174_120, e_174_121, e_174_122, e_174_123, e_174_126, e_174_127, e_174_130, e_174_132, e_174_133, e_174_134, e_174_135, e_174_136, e_174_138, e_174_139, e_174_140, e_174_143, e_174_144, e_174_147, e_174_149, e_174_150, e_174_151, e_174_152, e_174_153, e_174_154, e_174_155, e_174_156, e_174_159, e_174_160, e_174_163, e_174_165, e_174_166, e_174_167, e_174_168, e_174_169, e_174_171, e_174_172, e_174_173, e_174_176, e_174_177, e_174_180, e_174_182, e_174_183, e_174_184, e_174_185, e_174_186, e_174_187, e_174_188, e_174_189, e_174_192, e_174_193, e_174_196, e_174_198, e_174_199, e_174_200, e_174_201, e_174_202, e_174_204, e_174_205, e_174_206, e_174_209, e_174_210, e_174_213, e_174_215, e_174_216, e_174_218, e_174_219, e_174_220, e_174_223, e_174_224, e_174_1_6, rf_56_0 hR, rf_56_4 hR, rf_56_5 hR, rf_56_6 hR, rf_56_7 hR, rf_56_8 hR, rf_56_9 hR, rf_56_10 hR, rf_56_11 hR, rf_56_12 hR, rf_56_14 hR, rf_56_15 hR, rf_56_19 hR, rf_56_20 hR, rf_56_21 hR, rf_56_22 hR, rf_56_23 hR, rf_56_24 hR, rf_56_25 hR, rf_56_26 hR, rf_56_27 hR, rf_56_29 hR, rf_56_32 hR, rf_56_33 hR, rf_56_34 hR, rf_56_37 hR, rf_56_38 hR, kn_56, kn_57, kn_58, kn_59, kn_60, kn_61, kn_62, kn_63, kn_64, kn_65, kn_66, kn_67, kn_68, kn_69, kn_70, kn_71, kn_72, kn_73, kn_74, kn_75, kn_76, kn_77, kn_78, kn_79, kn_80, kn_81, kn_82, kn_83, ln_57, ln_58, ln_59, ln_60, ln_61, ln_62, ln_63, ln_64, ln_65, ln_66, ln_67, ln_68, ln_69, ln_70, ln_71, ln_72, ln_73, ln_74, ln_75, ln_76, ln_77, ln_78, ln_79, ln_80, ln_81, ln_82, ln_83, va_rf_some, push_s, push_n, nb0, nb1, nbb, Nat.reduceLT, h3, hix1, hcl1]
    rfl
  · simp only [e_174_0, e_174_64, e_174_65, e_174_68, e_174_69, e_174_70, e_174_71, e_174_73, e_174_74, e_174_77, e_174_78, e_174_81, e_174_82, e_174_83, e_174_84, e_174_85, e_174_88, e_174_90, e_174_91, e_174_92, e_174_95, e_174_96, e_174_99, e_174_100, e_174_101, e_174_102, e_174_104, e_174_105, e_174_106, e_174_107, e_174_110, e_174_111, e_174_114, e_174_116, e_174_117, e_174_118, e_174_119, e_174_120, e_174_121, e_174_122, e_174_123, e_174_126, e_174_127, e_174_130, e_174_132, e_174_133, e_174_134, e_174_135, e_174_136, e_174_138, e_174_139, e_174_140, e_174_143, e_174_144, e_174_147, e_174_149, e_174_150, e_174_151, e_174_152, e_174_153, e_174_154, e_174_155, e_174_156, e_174_159, e_174_160, e_174_163, e_174_165, e_174_166, e_174_167, e_174_168, e_174_169, e_174_171, e_174_172, e_174_173, e_174_176, e_174_177, e_174_180, e_174_182, e_174_183, e_174_184, e_174_185, e_174_186, e_174_187, e_174_188, e_174_189, e_174_192, e_174_193, e_174_196, e_174_198, e_174_199, e_174_200, e_174_201, e_174_202, e_174_204, e_174_205, e_174_206, e_174_209, e_174_210, e_174_213, e_174_215, e_174_216, e_174_218, e_174_219, e_174_220, e_174_223, e_174_224, e_174_1_7, rf_56_0 hR, rf_56_4 hR, rf_56_5 hR, rf_56_6 hR, rf_56_7 hR, rf_56_8 hR, rf_56_9 hR, rf_56_10 hR, rf_56_11 hR, rf_56_12 hR, rf_56_14 hR, rf_56_15 hR, rf_56_19 hR, rf_56_20 hR, rf_56_21 hR, rf_56_22 hR, rf_56_23 hR, rf_56_24 hR, rf_56_25 hR, rf_56_26 hR, rf_56_27 hR, rf_56_29 hR, rf_56_32 hR, rf_56_33 hR, rf_56_34 hR, rf_56_37 hR, rf_56_38 hR, kn_56, kn_57, kn_58, kn_59, kn_60, kn_61, kn_62, kn_63, kn_64, kn_65, kn_66, kn_67, kn_68, kn_69, kn_70, kn_71, kn_72, kn_73, kn_74, kn_75, kn_76, kn_77, kn_78, kn_79, kn_80, kn_81, kn_82, kn_83, ln_57, ln_58, ln_59, ln_60, ln_61, ln_62, ln_63, ln_64, ln_65, ln_66, ln_67, ln_68, ln_69, ln_70, ln_71, ln_72, ln_73, ln_74, ln_75, ln_76, ln_77, ln_78, ln_79, ln_80, ln_81, ln_82, ln_83, va_rf_some, push_s, push_n, nb0, nb1, nbb, Nat.reduceLT, h3, hix1, hcl1]
    rfl
  · simp only [e_174_0, e_174_64, e_174_65, e_174_68, e_174_69, e_174_70, e_174_71, e_174_73, e_174_74, e_174_77, e_174_78, e_174_81, e_174_82, e_174_83, e_174_84, e_174_85, e_174_88, e_174_90, e_174_91, e_174_92, e_174_95, e_174_96, e_174_99, e_174_100, e_174_101, e_174_102, e_174_104, e_174_105, e_174_106, e_174_107, e_174_110, e_174_111, e_174_114, e_174_116, e_174_117, e_174_118, e_174_119, e_174_120, e_174_121, e_174_122, e_174_123, e_174_126, e_174_127, e_174_130, e_174_132, e_174_133, e_174_134, e_174_135, e_174_136, e_174_138, e_174_139, e_174_140, e_174_143, e_174_144, e_174_147, e_174_149, e_174_150, e_174_151, e_174_152, e_174_153, e_174_154, e_174_155, e_174_156, e_174_159, e_174_160, e_174_163, e_174_165, e_174_166, e_174_167, e_174_168, e_174_169, e_174_171, e_174_172, e_174_173, e_174_176, e_174_177, e_174_180, e_174_182, e_174_183, e_174_184, e_174_185, e_174_186, e_174_187, e_174_188, e_174_189, e_174_192, e_174_193, e_174_196, e_174_198, e_174_199, e_174_200, e_174_201, e_174_202, e_174_204, e_174_205, e_174_206, e_174_209, e_174_210, e_174_213, e_174_215, e_174_216, e_174_218, e_174_219, e_174_220, e_174_223, e_174_224, e_174_1_8, rf_56_0 hR, rf_56_4 hR, rf_56_5 hR, rf_56_6 hR, rf_56_7 hR, rf_56_8 hR, rf_56_9 hR, rf_56_10 hR, rf_56_11 hR, rf_56_12 hR, rf_56_14 hR, rf_56_15 hR, rf_56_19 hR, rf_56_20 hR, rf_56_21 hR, rf_56_22 hR, rf_56_23 hR, rf_56_24 hR, rf_56_25 hR, rf_56_26 hR, rf_56_27 hR, rf_56_29 hR, rf_56_32 hR, rf_56_33 hR, rf_56_34 hR, rf_56_37 hR, rf_56_38 hR, kn_56, kn_57, kn_58, kn_59, kn_60, kn_61, kn_62, kn_63, kn_64, kn_65, kn_66, kn_67, kn_68, kn_69, kn_70, kn_71, kn_72, kn_73, kn_74, kn_75, kn_76, kn_77, kn_78, kn_79, kn_80, kn_81, kn_82, kn_83, ln_57, ln_58, ln_59, ln_60, ln_61, ln_62, ln_63, ln_64, ln_65, ln_66, ln_67, ln_68, ln_69, ln_70, ln_71, ln_72, ln_73, ln_74, ln_75, ln_76, ln_77, ln_78, ln_79, ln_80, ln_81, ln_82, ln_83, va_rf_some, push_s, push_n, nb0, nb1, nbb, Nat.reduceLT, h3, hix1, hcl1]
    rfl
  · simp only [e_174_0, e_174_64, e_174_65, e_174_68, e_174_69, e_174_70, e_174_71, e_174_73, e_174_74, e_174_77, e_174_78, e_174_81, e_174_82, e_174_83, e_174_84, e_174_85, e_174_88, e_174_90, e_174_91, e_174_92, e_174_95, e_174_96, e_174_99, e_174_100, e_174_101, e_174_102, e_174_104, e_174_105, e_174_106, e_174_107, e_174_110, e_174_111, e_174_114, e_174_116, e_174_117, e_174_118, e_174_119, e_174_120, e_174_121, e_174_122, e_174_123, e_174_126, e_174_127, e_174_130, e_174_132, e_174_133, e_174_134, e_174_135, e_174_136, e_174_138, e_174_139, e_174_140, e_174_143, e_174_144, e_174_147, e_174_149, e_174_150, e_174_151, e_174_152, e_174_153, e_174_154, e_174_155, e_174_156, e_174_159, e_174_160, e_174_163, e_174_165, e_174_166, e_174_167, e_174_168, e_174_169, e_174_171, e_174_172, e_174_173, e_174_176, e_174_177, e_174_180, e_174_182, e_174_183, e_174_184, e_174_185, e_174_186, e_174_187, e_174_188, e_174_189, e_174_192, e_174_193, e_174_196, e_174_198, e_174_199, e_174_200, e_174_201, e_174_202, e_174_204, e_174_205, e_174_206, e_174_209, e_174_210, e_174_213, e_174_215, e_174_216, e_174_218, e_174_219, e_174_220, e_174_223, e_174_224, e_174_1_9, rf_56_0 hR, rf_56_4 hR, rf_56_5 hR, rf_56_6 hR, rf_56_7 hR, rf_56_8 hR, rf_56_9 hR, rf_56_10 hR, rf_56_11 hR, rf_56_12 hR, rf_56_14 hR, rf_56_15 hR, rf_56_19 hR, rf_56_20 hR, rf_56_21 hR, rf_56_22 hR, rf_56_23 hR, rf_56_24 hR, rf_56_25 hR, rf_56_26 hR, rf_56_27 hR, rf_56_29 hR, rf_56_32 hR, rf_56_33 hR, rf_56_34 hR, rf_56_37 hR, rf_56_38 hR, kn_56, kn_57, kn_58, kn_59, kn_60, kn_61, kn_62, kn_63, kn_64, kn_65, kn_66, kn_67, kn_68, kn_69, kn_70, kn_71, kn_72, kn_73, kn_74, kn_75, kn_76, kn_77, kn_78, kn_79, kn_80, kn_81, kn_82, kn_83, ln_57, ln_58, ln_59, ln_60, ln_61, ln_62, ln_63, ln_64, ln_65, ln_66, ln_67, ln_68, ln_69, ln_70, ln_71, ln_72, ln_73, ln_74, ln_75, ln_76, ln_77, ln_78, ln_79, ln_80, ln_81, ln_82, ln_83, va_rf_some, push_s, push_n, nb0, nb1, nbb, Nat.reduceLT, h3, hix1, hcl1]
    rfl
  · simp only [e_174_0, e_174_64, e_174_65, e_174_68, e_174_69, e_174_70, e_174_71, e_174_73, e_174_74, e_174_77, e_174_78, e_174_81, e_174_82, e_174_83, e_174_84, e_174_85, e_174_88, e_174_90, e_174_91, e_174_92, e_174_95, e_174_96, e_174_99, e_174_100, e_174_101, e_174_102, e_174_104, e_174_105, e_174_106, e_174_107, e_174_110, e_174_111, e_174_114, e_174_116, e_174_117, e_174_118, e_174_119, e_174_120, e_174_121, e_174_122, e_174_123, e_174_126, e_174_127, e_174_130, e_174_132, e_174_133, e_174_134, e_174_135, e_174_136, e_174_138, e_174_139, e_174_140, e_174_143, e_174_144, e_174_147, e_174_149, e_174_150, e_174_151, e_174_152, e_174_153, e_174_154, e_174_155, e_174_156, e_174_159, e_174_160, e_174_163, e_174_165, e_174_166, e_174_167, e_174_168, e_174_169, e_174_171, e_174_172, e_174_173, e_174_176, e_174_177, e_174_180, e_174_182, e_174_183, e_174_184, e_174_185, e_174_186, e_174_187, e_174_188, e_174_189, e_174_192, e_174_193, e_174_196, e_174_198, e_174_199, e_174_200, e_174_201, e_174_202, e_174_204, e_174_205, e_174_206, e_174_209, e_174_210, e_174_213, e_174_215, e_174_216, e_174_218, e_174_219, e_174_220, e_174_223, e_174_224, e_174_1_10, rf_56_0 hR, rf_56_4 hR, rf_56_5 hR, rf_56_6 hR, rf_56_7 hR, rf_56_8 hR, rf_56_9 hR, rf_56_10 hR, rf_56_11 hR, rf_56_12 hR, rf_56_14 hR, rf_56_15 hR, rf_56_19 hR, rf_56_20 hR, rf_56_21 hR, rf_56_22 hR, rf_56_23 hR, rf_56_24 hR, rf_56_25 hR, rf_56_26 hR, rf_56_27 hR, rf_56_29 hR, rf_56_32 hR, rf_56_33 hR, rf_56_34 hR, rf_56_37 hR, rf_56_38 hR, kn_56, kn_57, kn_58, kn_59, kn_60, kn_61, kn_62, kn_63, kn_64, kn_65, kn_66, kn_67, kn_68, kn_69, kn_70, kn_71, kn_72, kn_73, kn_74, kn_75, kn_76, kn_77, kn_78, kn_79, kn_80, kn_81, kn_82, kn_83, ln_57, ln_58, ln_59, ln_60, ln_61, ln_62, ln_63, ln_64, ln_65, ln_66, ln_67, ln_68, ln_69, ln_70, ln_71, ln_72, ln_73, ln_74, ln_75, ln_76, ln_77, ln_78, ln_79, ln_80, ln_81, ln_82, ln_83, va_rf_some, push_s, push_n, nb0, nb1, nbb, Nat.reduceLT, e4, h51, hc51, hm]
    rfl
  · simp only [e_174_0, e_174_64, e_174_65, e_174_68, e_174_69, e_174_70, e_174_71, e_174_73, e_174_74, e_174_77, e_174_78, e_174_81, e_174_82, e_174_83, e_174_84, e_174_85, e_174_88, e_174_90, e_174_91, e_174_92, e_174_95, e_174_96, e_174_99, e_174_100, e_174_101, e_174_102, e_174_104, e_174_105, e_174_106, e_174_107, e_174_110, e_174_111, e_174_114, e_174_116, e_174_117, e_174_118, e_174_119, e_174_120, e_174_121, e_174_122, e_174_123, e_174_126, e_174_127, e_174_130, e_174_132, e_174_133, e_174_134, e_174_135, e_174_136, e_174_138, e_174_139, e_174_140, e_174_143, e_174_144, e_174_147, e_174_149, e_174_150, e_174_151, e_174_152, e_174_153, e_174_154, e_174_155, e_174_156, e_174_159, e_174_160, e_174_163, e_174_165, e_174_166, e_174_167, e_174_168, e_174_169, e_174_171, e_174_172, e_174_173, e_174_176, e_174_177, e_174_180, e_174_182, e_174_183, e_174_184, e_174_185, e_174_186, e_174_187, e_174_188, e_174_189, e_174_192, e_174_193, e_174_196, e_174_198, e_174_199, e_174_200, e_174_201, e_174_202, e_174_204, e_174_205, e_174_206, e_174_209, e_174_210, e_174_213, e_174_215, e_174_216, e_174_218, e_174_219, e_174_220, e_174_223, e_174_224, e_174_1_11, rf_56_0 hR, rf_56_4 hR, rf_56_5 hR, rf_56_6 hR, rf_56_7 hR, rf_56_8 hR, rf_56_9 hR, rf_56_10 hR, rf_56_11 hR, rf_56_12 hR, rf_56_14 hR, rf_56_15 hR, rf_56_19 hR, rf_56_20 hR, rf_56_21 hR, rf_56_22 hR, rf_56_23 hR, rf_56_24 hR, rf_56_25 hR, rf_56_26 hR, rf_56_27 hR, rf_56_29 hR, rf_56_32 hR, rf_56_33 hR, rf_56_34 hR, rf_56_37 hR, rf_56_38 hR, kn_56, kn_57, kn_58, kn_59, kn_60, kn_61, kn_62, kn_63, kn_64, kn_65, kn_66, kn_67, kn_68, kn_69, kn_70, kn_71, kn_72, kn_73, kn_74, kn_75, kn_76, kn_77, kn_78, kn_79, kn_80, kn_81, kn_82, kn_83, ln_57, ln_58, ln_59, ln_60, ln_61, ln_62, ln_63, ln_64, ln_65, ln_66, ln_67, ln_68, ln_69, ln_70, ln_71, ln_72, ln_73, ln_74, ln_75, ln_76, ln_77, ln_78, ln_79, ln_80, ln_81, ln_82, ln_83, va_rf_some, push_s, push_n, nb0, nb1, nbb, Nat.reduceLT, hz, hix, hcl]
    rfl
theorem mturn_step (f : Nat → Int32) {i : Nat} (hi : i < 16) : (if f (16 + i) &&& 4 = 0 then mturn f i else upd (upd (mturn f i) (32 + i) (f (32 + i) - 1)) (16 + i) (f (16 + i) &&& (if f (32 + i) - 1 = 0 then -5 else -1))) = mturn f (i + 1) := by
  funext q
  by_cases h1 : q = 32 + i
  · subst h1
    have e : 32 + i - 16 = 16 + i := by omega
    by_cases h0 : f (16 + i) &&& 4 = 0
    · rw [if_pos h0]
      unfold mturn
      rw [e]
      rw [if_neg (by omega), if_neg (fun c => c.2.2 h0), if_neg (fun c => by omega), if_neg (by omega), if_neg (fun c => c.2.2 h0), if_neg (fun c => by omega)]
    · rw [if_neg h0, ud, ud, if_neg (by omega), if_pos rfl]
      unfold mturn
      rw [e, if_neg (by omega), if_pos ⟨by omega, by omega, h0⟩]
  · by_cases h2 : q = 16 + i
    · subst h2
      have e : 16 + i + 16 = 32 + i := by omega
      by_cases h0 : f (16 + i) &&& 4 = 0
      · rw [if_pos h0]
        unfold mturn
        rw [if_neg (by omega), if_neg (by omega), if_neg (by omega), if_neg (by omega), if_neg (by omega), if_neg (fun c => c.2.2 h0)]
      · rw [if_neg h0, ud, if_pos rfl]
        symm
        unfold mturn
        rw [if_neg (by omega), if_neg (fun c => by omega), if_pos ⟨by omega, by omega, h0⟩, e]
    · have e1 : (32 ≤ q ∧ q < 32 + i ∧ f (q - 16) &&& 4 ≠ 0) ↔ (32 ≤ q ∧ q < 32 + (i + 1) ∧ f (q - 16) &&& 4 ≠ 0) := by
        constructor
        · rintro ⟨a, b, c⟩; exact ⟨a, by omega, c⟩
        · rintro ⟨a, b, c⟩; exact ⟨a, by omega, c⟩
      have e2 : (16 ≤ q ∧ q < 16 + i ∧ f q &&& 4 ≠ 0) ↔ (16 ≤ q ∧ q < 16 + (i + 1) ∧ f q &&& 4 ≠ 0) := by
        constructor
        · rintro ⟨a, b, c⟩; exact ⟨a, by omega, c⟩
        · rintro ⟨a, b, c⟩; exact ⟨a, by omega, c⟩
      have : mturn f (i + 1) q = mturn f i q := by
        unfold mturn
        simp only [e1, e2]
      rw [this]
      split
      · rfl
      · rw [ud, if_neg h2, ud, if_neg h1]
theorem mturn_16 (f : Nat → Int32) {i : Nat} (hi : i < 16) : mturn f i (16 + i) = f (16 + i) := by
  unfold mturn
  rw [if_neg (by omega), if_neg (by omega), if_neg (by omega)]
theorem mturn_32 (f : Nat → Int32) {i : Nat} (hi : i < 16) : mturn f i (32 + i) = f (32 + i) := by
  unfold mturn
  rw [if_neg (by omega), if_neg (by omega), if_neg (by omega)]
theorem m_turns_loop (hR : tRef h d R) (hn3 : I 56 3 = nI nt) (h16 : nt ≤ 16) : ∀ j i, i + j = nt → tEv E 175 13 [.ref 56, .int (nI i)] [] (mS (va_up I 57 (mturn (I 57) i)) J R) Q = Q (some 0) (mS (va_up (va_up I 57 (mturn (I 57) nt)) 56 (upd (I 56) 35 0)) J R)
  | 0, i, hj => by
    obtain rfl : i = nt := by omega
    have hn : (nI i < nI i) = False := eq_false Int32.lt_irrefl
    rw [e_175_13]
    simp only [e_175_0, e_175_1, e_175_4, e_175_6, e_175_7, e_175_8, e_175_9, e_175_10, e_175_11, e_175_12, e_175_14, e_175_15, e_175_18, e_175_21, e_175_22, e_175_23, e_175_24, e_175_27, e_175_30, e_175_31, e_175_34, e_175_36, e_175_37, e_175_38, e_175_39, e_175_40, e_175_41, e_175_42, e_175_43, e_175_44, e_175_47, e_175_49, e_175_50, e_175_51, e_175_52, e_175_53, e_175_54, e_175_57, e_175_59, e_175_60, e_175_61, e_175_62, e_175_65, e_175_67, e_175_70, e_175_71, e_175_72, e_175_73, e_175_76, e_175_79, e_175_80, e_175_81, e_175_84, e_175_85, rf_56_0 hR, rf_56_4 hR, rf_56_5 hR, rf_56_6 hR, rf_56_7 hR, rf_56_8 hR, rf_56_9 hR, rf_56_10 hR, rf_56_11 hR, rf_56_12 hR, rf_56_14 hR, rf_56_15 hR, rf_56_19 hR, rf_56_20 hR, rf_56_21 hR, rf_56_22 hR, rf_56_23 hR, rf_56_24 hR, rf_56_25 hR, rf_56_26 hR, rf_56_27 hR, rf_56_29 hR, rf_56_32 hR, rf_56_33 hR, rf_56_34 hR, rf_56_37 hR, rf_56_38 hR, kn_56, kn_57, kn_58, kn_59, kn_60, kn_61, kn_62, kn_63, kn_64, kn_65, kn_66, kn_67, kn_68, kn_69, kn_70, kn_71, kn_72, kn_73, kn_74, kn_75, kn_76, kn_77, kn_78, kn_79, kn_80, kn_81, kn_82, kn_83, ln_57, ln_58, ln_59, ln_60, ln_61, ln_62, ln_63, ln_64, ln_65, ln_66, ln_67, ln_68, ln_69, ln_70, ln_71, ln_72, ln_73, ln_74, ln_75, ln_76, ln_77, ln_78, ln_79, ln_80, ln_81, ln_82, ln_83, va_rf_some, push_s, push_n, nb0, nb1, nbb, Nat.reduceLT, vu, Nat.reduceEqDiff, reduceIte, hn3, hn]
  | j + 1, i, hj => by
    have hn : (nI i < nI nt) = True := eq_true (nI_lt (by omega) (by omega))
    have h1 := inb_nI (j := 16 + i) (n := 468) (by omega) (by decide)
    have h2 := nI_cl (n := 16 + i) (by omega)
    have h3 := inb_nI (j := 32 + i) (n := 468) (by omega) (by decide)
    have h4 := nI_cl (n := 32 + i) (by omega)
    have h5 : (16 : Int32) + nI i = nI (16 + i) := nI_add 16 i
    have h6 : (32 : Int32) + nI i = nI (32 + i) := nI_add 32 i
    have hs := mturn_step (I 57) (show i < 16 by omega)
    rw [e_175_13]
    simp only [e_175_0, e_175_1, e_175_4, e_175_6, e_175_7, e_175_8, e_175_9, e_175_10, e_175_11, e_175_12, e_175_14, e_175_15, e_175_18, e_175_21, e_175_22, e_175_23, e_175_24, e_175_27, e_175_30, e_175_31, e_175_34, e_175_36, e_175_37, e_175_38, e_175_39, e_175_40, e_175_41, e_175_42, e_175_43, e_175_44, e_175_47, e_175_49, e_175_50, e_175_51, e_175_52, e_175_53, e_175_54, e_175_57, e_175_59, e_175_60, e_175_61, e_175_62, e_175_65, e_175_67, e_175_70, e_175_71, e_175_72, e_175_73, e_175_76, e_175_79, e_175_80, e_175_81, e_175_84, e_175_85, rf_56_0 hR, rf_56_4 hR, rf_56_5 hR, rf_56_6 hR, rf_56_7 hR, rf_56_8 hR, rf_56_9 hR, rf_56_10 hR, rf_56_11 hR, rf_56_12 hR, rf_56_14 hR, rf_56_15 hR, rf_56_19 hR, rf_56_20 hR, rf_56_21 hR, rf_56_22 hR, rf_56_23 hR, rf_56_24 hR, rf_56_25 hR, rf_56_26 hR, rf_56_27 hR, rf_56_29 hR, rf_56_32 hR, rf_56_33 hR, rf_56_34 hR, rf_56_37 hR, rf_56_38 hR, kn_56, kn_57, kn_58, kn_59, kn_60, kn_61, kn_62, kn_63, kn_64, kn_65, kn_66, kn_67, kn_68, kn_69, kn_70, kn_71, kn_72, kn_73, kn_74, kn_75, kn_76, kn_77, kn_78, kn_79, kn_80, kn_81, kn_82, kn_83, ln_57, ln_58, ln_59, ln_60, ln_61, ln_62, ln_63, ln_64, ln_65, ln_66, ln_67, ln_68, ln_69, ln_70, ln_71, ln_72, ln_73, ln_74, ln_75, ln_76, ln_77, ln_78, ln_79, ln_80, ln_81, ln_82, ln_83, va_rf_some, push_s, push_n, nb0, nb1, nbb, Nat.reduceLT, vu, Nat.reduceEqDiff, reduceIte, hn3, hn, m_isState hR (show i < 16 by omega), h1, h2, h3, h4, h5, h6, vu_vu, ud, mturn_16 (I 57) (show i < 16 by omega), mturn_32 (I 57) (show i < 16 by omega), b2i_0, Bool.not_eq_false', decide_eq_true_eq, nI_1]
    by_cases h0 : I 57 (16 + i) &&& 4 = 0
    · rw [if_pos h0] at hs ⊢
      rw [hs]
      exact m_turns_loop hR hn3 h16 j (i + 1) (by omega)
    · rw [if_neg h0] at hs ⊢
      have ih := m_turns_loop hR hn3 h16 j (i + 1) (by omega)
      rw [if_neg (show ¬ 16 + i = 32 + i by omega)]
      by_cases h7 : I 57 (32 + i) - 1 = 0
      · rw [if_pos h7] at hs ⊢
        rw [hs]
        exact ih
      · rw [if_neg h7] at hs ⊢
        rw [hs]
        exact ih
theorem mturn_0 (f : Nat → Int32) : mturn f 0 = upd f 49 (f 49 + 1) := by
  funext q
  rw [ud]
  unfold mturn
  by_cases h1 : q = 49
  · rw [if_pos h1, if_pos h1]
  · rw [if_neg h1, if_neg (fun c => by omega), if_neg (fun c => by omega), if_neg h1]
theorem m_turns (hR : tRef h d R) (hn3 : I 56 3 = nI nt) (h16 : nt ≤ 16) : tEv E 175 0 [.ref 56, tm_dum] [] (mS I J R) Q = Q (some 0) (mS (va_up (va_up I 57 (mturn (I 57) nt)) 56 (upd (I 56) 35 0)) J R) := by
  have h48 : tm_inb 49 468 = true := by decide
  have hc48 : (49 : Int32).toNatClampNeg = 49 := by decide
  have := fun {Q} => m_turns_loop (E := E) (Q := Q) (J := J) (I := I) hR hn3 h16 nt 0 (by omega)
  rw [mturn_0] at this
  simp only [e_175_0, e_175_1, e_175_4, e_175_6, e_175_7, e_175_8, e_175_9, e_175_10, e_175_11, e_175_12, rf_56_0 hR, rf_56_4 hR, rf_56_5 hR, rf_56_6 hR, rf_56_7 hR, rf_56_8 hR, rf_56_9 hR, rf_56_10 hR, rf_56_11 hR, rf_56_12 hR, rf_56_14 hR, rf_56_15 hR, rf_56_19 hR, rf_56_20 hR, rf_56_21 hR, rf_56_22 hR, rf_56_23 hR, rf_56_24 hR, rf_56_25 hR, rf_56_26 hR, rf_56_27 hR, rf_56_29 hR, rf_56_32 hR, rf_56_33 hR, rf_56_34 hR, rf_56_37 hR, rf_56_38 hR, kn_56, kn_57, kn_58, kn_59, kn_60, kn_61, kn_62, kn_63, kn_64, kn_65, kn_66, kn_67, kn_68, kn_69, kn_70, kn_71, kn_72, kn_73, kn_74, kn_75, kn_76, kn_77, kn_78, kn_79, kn_80, kn_81, kn_82, kn_83, ln_57, ln_58, ln_59, ln_60, ln_61, ln_62, ln_63, ln_64, ln_65, ln_66, ln_67, ln_68, ln_69, ln_70, ln_71, ln_72, ln_73, ln_74, ln_75, ln_76, ln_77, ln_78, ln_79, ln_80, ln_81, ln_82, ln_83, va_rf_some, push_s, push_n, nb0, nb1, nbb, Nat.reduceLT, h48, hc48]
  exact this
end M5
