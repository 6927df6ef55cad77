/-! ===== the model's world, further: sums, sets, what is seen ===== -/
def mtat (I : Nat → Nat → Int32) (pl : Nat → Nat) (nt p : Nat) : Int32 := sm (fun k => if pl k = p then mtot I pl nt k else 0) nt
def mman (pl : Nat → Nat) (nt p : Nat) : Int32 := sm (fun k => if pl k = p then 1 else 0) nt
/-- is t out in r, if you are in y -/
def outb (pl : Nat → Nat) (sh : Nat → Bool) (y r t : Nat) : Bool := !hid pl sh t && (fin pl t == r || (fin pl t == 30 && y == r))
def anyb (p : Nat → Bool) : Nat → Bool
  | 0 => false
  | n + 1 => anyb p n || p n
theorem anyb_iff {p : Nat → Bool} : ∀ {n : Nat}, anyb p n = true ↔ ∃ k, k < n ∧ p k = true
  | 0 => by simp [anyb]
  | n + 1 => by
    rw [anyb, Bool.or_eq_true, anyb_iff]
    constructor
    · rintro (⟨k, h1, h2⟩ | h)
      · exact ⟨k, by omega, h2⟩
      · exact ⟨n, by omega, h⟩
    · rintro ⟨k, h1, h2⟩
      by_cases hk : k = n
      · exact Or.inr (hk ▸ h2)
      · exact Or.inl ⟨k, by omega, h2⟩
theorem anyb_cong {p q : Nat → Bool} : ∀ {n : Nat}, (∀ k, k < n → p k = q k) → anyb p n = anyb q n
  | 0, _ => rfl
  | n + 1, h => by rw [anyb, anyb, anyb_cong (fun k hk => h k (by omega)), h n (by omega)]
def mon (I : Nat → Nat → Int32) (t : Nat) : Bool := !decide (I 57 (16 + t) &&& 4 = 0)
def mlit (I : Nat → Nat → Int32) (pl : Nat → Nat) (nt y r : Nat) : Bool := decide (I 58 r = 1) || anyb (fun t => outb pl (mshut I) y r t && mon I t) nt
/-- where you are, and the ways -/
def mY (I : Nat → Nat → Int32) (nr nt y : Nat) : Prop := I 57 48 = nI y ∧ y < nr ∧ (∀ q, q < 24 → I 64 q = -4 ∨ ∃ r, r < nr ∧ I 64 q = nI r) ∧ (∀ q, q < 24 → I 65 q = -4 ∨ ∃ k, k < nt ∧ I 65 q = nI k)
def mdr (I : Nat → Nat → Int32) (y t : Nat) : Bool := anyb (fun x => decide (I 65 (4 * y + x) = nI t)) 4
def mseen (I : Nat → Nat → Int32) (pl : Nat → Nat) (nt y t : Nat) : Bool := if mlit I pl nt y y = true then outb pl (mshut I) y y t || mdr I y t else pl t == 30
section M3
variable {E : tm_Env} {Q : Option Int32 → tm_St → Prop} {I : Nat → Nat → Int32} {J : Nat → Nat → Int64} {R : Nat → Nat → Option Nat} {h d : Nat} {nr nt y : Nat} {pl : Nat → Nat}
theorem m_totalAt_loop (hR : tRef h d R) (hW : mW I nr nt pl) {p : Nat} (hp : p < 100) : ∀ j i acc, i + j = nt → acc = sm (fun k => if pl k = p then mtot I pl nt k else 0) i → tEv E 163 4 [.ref 56, .int (nI p), .int acc, .int (nI i)] [] (mS I J R) Q = Q (some (mtat I pl nt p)) (mS I J R)
  | 0, i, acc, hj, ha => by
    have h16 := hW.2.2.2.1
    have hn : (nI i < nI nt) = False := by
      rw [show i = nt by omega]
      exact eq_false Int32.lt_irrefl
    rw [e_163_4]
    simp only [e_163_0, e_163_1, e_163_2, e_163_3, e_163_5, e_163_6, e_163_9, e_163_12, e_163_13, e_163_14, e_163_17, e_163_18, e_163_19, e_163_20, e_163_21, e_163_22, e_163_25, e_163_26, e_163_27, e_163_30, e_163_33, e_163_34, e_163_35, e_163_36, e_163_39, e_163_42, e_163_43, rf_56_0 hR, rf_56_4 hR, rf_56_5 hR, rf_56_6 hR, rf_56_7 hR, rf_56_8 hR, rf_56_9 hR, rf_56_10 hR, rf_56_11 hR, rf_56_12 hR, rf_56_14 hR, rf_56_15 hR, rf_56_19 hR, rf_56_20 hR, rf_56_21 hR, rf_56_22 hR, rf_56_23 hR, rf_56_24 hR, rf_56_25 hR, rf_56_26 hR, rf_56_27 hR, rf_56_29 hR, rf_56_32 hR, rf_56_33 hR, rf_56_34 hR, rf_56_37 hR, rf_56_38 hR, kn_56, kn_57, kn_58, kn_59, kn_60, kn_61, kn_62, kn_63, kn_64, kn_65, kn_66, kn_67, kn_68, kn_69, kn_70, kn_71, kn_72, kn_73, kn_74, kn_75, kn_76, kn_77, kn_78, kn_79, kn_80, kn_81, kn_82, kn_83, ln_57, ln_58, ln_59, ln_60, ln_61, ln_62, ln_63, ln_64, ln_65, ln_66, ln_67, ln_68, ln_69, ln_70, ln_71, ln_72, ln_73, ln_74, ln_75, ln_76, ln_77, ln_78, ln_79, ln_80, ln_81, ln_82, ln_83, va_rf_some, push_s, push_n, nb0, nb1, nbb, Nat.reduceLT, hW.2.1, hn, if_false]
    rw [ha, show i = nt by omega]
    rfl
  | j + 1, i, acc, hj, ha => by
    have h16 := hW.2.2.2.1
    have hn : (nI i < nI nt) = True := eq_true (nI_lt (by omega) (by omega))
    have hix := inb_nI (j := i) (n := 468) (by omega) (by decide)
    have hcl := nI_cl (n := i) (by omega)
    have hz : (0 : Int32) + nI i = nI i := Int32.zero_add _
    have hpl := mW_pl hW (show i < nt by omega)
    have heq : (nI (pl i) = nI p) = (pl i = p) := propext (nI_eq (by omega) (by omega))
    have ih := fun acc' e => m_totalAt_loop hR hW hp j (i + 1) acc' (by omega) e
    rw [e_163_4]
    simp only [e_163_0, e_163_1, e_163_2, e_163_3, e_163_5, e_163_6, e_163_9, e_163_12, e_163_13, e_163_14, e_163_17, e_163_18, e_163_19, e_163_20, e_163_21, e_163_22, e_163_25, e_163_26, e_163_27, e_163_30, e_163_33, e_163_34, e_163_35, e_163_36, e_163_39, e_163_42, e_163_43, rf_56_0 hR, rf_56_4 hR, rf_56_5 hR, rf_56_6 hR, rf_56_7 hR, rf_56_8 hR, rf_56_9 hR, rf_56_10 hR, rf_56_11 hR, rf_56_12 hR, rf_56_14 hR, rf_56_15 hR, rf_56_19 hR, rf_56_20 hR, rf_56_21 hR, rf_56_22 hR, rf_56_23 hR, rf_56_24 hR, rf_56_25 hR, rf_56_26 hR, rf_56_27 hR, rf_56_29 hR, rf_56_32 hR, rf_56_33 hR, rf_56_34 hR, rf_56_37 hR, rf_56_38 hR, kn_56, kn_57, kn_58, kn_59, kn_60, kn_61, kn_62, kn_63, kn_64, kn_65, kn_66, kn_67, kn_68, kn_69, kn_70, kn_71, kn_72, kn_73, kn_74, kn_75, kn_76, kn_77, kn_78, kn_79, kn_80, kn_81, kn_82, kn_83, ln_57, ln_58, ln_59, ln_60, ln_61, ln_62, ln_63, ln_64, ln_65, ln_66, ln_67, ln_68, ln_69, ln_70, ln_71, ln_72, ln_73, ln_74, ln_75, ln_76, ln_77, ln_78, ln_79, ln_80, ln_81, ln_82, ln_83, va_rf_some, push_s, push_n, nb0, nb1, nbb, Nat.reduceLT, hW.2.1, hn, if_true, heq, (hW.2.2.2.2.1 i (by omega)).1, m_total hR hW (show i < 16 by omega), hix, hcl, hz, nI_1]
    by_cases h1 : pl i = p
    · rw [if_pos h1]
      exact ih _ (by rw [sm, ha, if_pos h1])
    · rw [if_neg h1]
      exact ih _ (by rw [sm, ha, if_neg h1])
theorem m_totalAt (hR : tRef h d R) (hW : mW I nr nt pl) {p : Nat} (hp : p < 100) : tEv E 163 0 [.ref 56, .int (nI p), tm_dum, tm_dum] [] (mS I J R) Q = Q (some (mtat I pl nt p)) (mS I J R) := by
  simp only [e_163_0, e_163_1, e_163_2, e_163_3]
  exact m_totalAt_loop hR hW hp nt 0 0 (by omega) rfl
theorem m_manyAt_loop (hR : tRef h d R) (hW : mW I nr nt pl) {p : Nat} (hp : p < 100) : ∀ j i acc, i + j = nt → acc = sm (fun k => if pl k = p then 1 else 0) i → tEv E 173 4 [.ref 56, .int (nI p), .int acc, .int (nI i)] [] (mS I J R) Q = Q (some (mman pl nt p)) (mS I J R)
  | 0, i, acc, hj, ha => by
    have h16 := hW.2.2.2.1
    have hn : (nI i < nI nt) = False := by
      rw [show i = nt by omega]
      exact eq_false Int32.lt_irrefl
    rw [e_173_4]
    simp only [e_173_0, e_173_1, e_173_2, e_173_3, e_173_5, e_173_6, e_173_9, e_173_12, e_173_13, e_173_14, e_173_17, e_173_18, e_173_19, e_173_20, e_173_21, e_173_22, e_173_25, e_173_26, e_173_29, e_173_30, e_173_31, e_173_32, e_173_35, e_173_38, e_173_39, rf_56_0 hR, rf_56_4 hR, rf_56_5 hR, rf_56_6 hR, rf_56_7 hR, rf_56_8 hR, rf_56_9 hR, rf_56_10 hR, rf_56_11 hR, rf_56_12 hR, rf_56_14 hR, rf_56_15 hR, rf_56_19 hR, rf_56_20 hR, rf_56_21 hR, rf_56_22 hR, rf_56_23 hR, rf_56_24 hR, rf_56_25 hR, rf_56_26 hR, rf_56_27 hR, rf_56_29 hR, rf_56_32 hR, rf_56_33 hR, rf_56_34 hR, rf_56_37 hR, rf_56_38 hR, kn_56, kn_57, kn_58, kn_59, kn_60, kn_61, kn_62, kn_63, kn_64, kn_65, kn_66, kn_67, kn_68, kn_69, kn_70, kn_71, kn_72, kn_73, kn_74, kn_75, kn_76, kn_77, kn_78, kn_79, kn_80, kn_81, kn_82, kn_83, ln_57, ln_58, ln_59, ln_60, ln_61, ln_62, ln_63, ln_64, ln_65, ln_66, ln_67, ln_68, ln_69, ln_70, ln_71, ln_72, ln_73, ln_74, ln_75, ln_76, ln_77, ln_78, ln_79, ln_80, ln_81, ln_82, ln_83, va_rf_some, push_s, push_n, nb0, nb1, nbb, Nat.reduceLT, hW.2.1, hn, if_false]
    rw [ha, show i = nt by omega]
    rfl
  | j + 1, i, acc, hj, ha => by
    have h16 := hW.2.2.2.1
    have hn : (nI i < nI nt) = True := eq_true (nI_lt (by omega) (by omega))
    have hix := inb_nI (j := i) (n := 468) (by omega) (by decide)
    have hcl := nI_cl (n := i) (by omega)
    have hz : (0 : Int32) + nI i = nI i := Int32.zero_add _
    have hpl := mW_pl hW (show i < nt by omega)
    have heq : (nI (pl i) = nI p) = (pl i = p) := propext (nI_eq (by omega) (by omega))
    have ih := fun acc' e => m_manyAt_loop hR hW hp j (i + 1) acc' (by omega) e
    rw [e_173_4]
    simp only [e_173_0, e_173_1, e_173_2, e_173_3, e_173_5, e_173_6, e_173_9, e_173_12, e_173_13, e_173_14, e_173_17, e_173_18, e_173_19, e_173_20, e_173_21, e_173_22, e_173_25, e_173_26, e_173_29, e_173_30, e_173_31, e_173_32, e_173_35, e_173_38, e_173_39, rf_56_0 hR, rf_56_4 hR, rf_56_5 hR, rf_56_6 hR, rf_56_7 hR, rf_56_8 hR, rf_56_9 hR, rf_56_10 hR, rf_56_11 hR, rf_56_12 hR, rf_56_14 hR, rf_56_15 hR, rf_56_19 hR, rf_56_20 hR, rf_56_21 hR, rf_56_22 hR, rf_56_23 hR, rf_56_24 hR, rf_56_25 hR, rf_56_26 hR, rf_56_27 hR, rf_56_29 hR, rf_56_32 hR, rf_56_33 hR, rf_56_34 hR, rf_56_37 hR, rf_56_38 hR, kn_56, kn_57, kn_58, kn_59, kn_60, kn_61, kn_62, kn_63, kn_64, kn_65, kn_66, kn_67, kn_68, kn_69, kn_70, kn_71, kn_72, kn_73, kn_74, kn_75, kn_76, kn_77, kn_78, kn_79, kn_80, kn_81, kn_82, kn_83, ln_57, ln_58, ln_59, ln_60, ln_61, ln_62, ln_63, ln_64, ln_65, ln_66, ln_67, ln_68, ln_69, ln_70, ln_71, ln_72, ln_73, ln_74, ln_75, ln_76, ln_77, ln_78, ln_79, ln_80, ln_81, ln_82, ln_83, va_rf_some, push_s, push_n, nb0, nb1, nbb, Nat.reduceLT, hW.2.1, hn, if_true, heq, (hW.2.2.2.2.1 i (by omega)).1, hix, hcl, hz, nI_1]
    by_cases h1 : pl i = p
    · rw [if_pos h1]
      exact ih _ (by rw [sm, ha, if_pos h1])
    · rw [if_neg h1]
      exact ih _ (by rw [sm, ha, if_neg h1])
theorem m_manyAt (hR : tRef h d R) (hW : mW I nr nt pl) {p : Nat} (hp : p < 100) : tEv E 173 0 [.ref 56, .int (nI p), tm_dum, tm_dum] [] (mS I J R) Q = Q (some (mman pl nt p)) (mS I J R) := by
  simp only [e_173_0, e_173_1, e_173_2, e_173_3]
  exact m_manyAt_loop hR hW hp nt 0 0 (by omega) rfl
/-- how many bits of 16 -/
def cnt (x : Int32) : Int32 := sm (fun k => b2i (bt x k)) 16
theorem m_ones_loop {S : tm_St} {x : Int32} : ∀ j i acc, i + j = 16 → acc = sm (fun k => b2i (bt x k)) i → tEv E 170 4 [.int x, .int acc, .int (nI i)] [] S Q = Q (some (cnt x)) S
  | 0, i, acc, hj, ha => by
    have hn : (nI i < 16) = False := by
      rw [show i = 16 by omega]
      exact eq_false (show ¬ (16 : Int32) < 16 by decide)
    rw [e_170_4]
    simp only [e_170_0, e_170_1, e_170_2, e_170_3, e_170_5, e_170_7, e_170_10, e_170_11, e_170_12, e_170_13, e_170_14, e_170_15, e_170_16, e_170_17, e_170_18, e_170_21, e_170_24, e_170_25, va_rf_some, push_s, push_n, nb0, nb1, nbb, Nat.reduceLT, hn, if_false]
    rw [ha, show i = 16 by omega]
    rfl
  | j + 1, i, acc, hj, ha => by
    have hn : (nI i < 16) = True := eq_true (nI_lt (b := 16) (by omega) (by omega))
    rw [e_170_4]
    simp only [e_170_0, e_170_1, e_170_2, e_170_3, e_170_5, e_170_7, e_170_10, e_170_11, e_170_12, e_170_13, e_170_14, e_170_15, e_170_16, e_170_17, e_170_18, e_170_21, e_170_24, e_170_25, va_rf_some, push_s, push_n, nb0, nb1, nbb, Nat.reduceLT, hn, if_true, hasv x (show i < 32 by omega), nI_1]
    exact m_ones_loop j (i + 1) _ (by omega) (by rw [sm, ha])
theorem m_ones {S : tm_St} {x : Int32} : tEv E 170 0 [.int x, tm_dum, tm_dum] [] S Q = Q (some (cnt x)) S := by
  simp only [e_170_0, e_170_1, e_170_2, e_170_3]
  exact m_ones_loop 16 0 0 rfl rfl
theorem m_out_loop (hR : tRef h d R) (hW : mW I nr nt pl) (hY : mY I nr nt y) {r : Nat} (hr : r < 6) : ∀ j i acc l4, i + j = nt → acc = so (outb pl (mshut I) y r) i → tEv E 178 4 [.ref 56, .int (nI r), .int acc, .int (nI i), l4] [] (mS I J R) Q = Q (some (so (outb pl (mshut I) y r) nt)) (mS I J R)
  | 0, i, acc, l4, hj, ha => by
    have h16 := hW.2.2.2.1
    have hn : (nI i < nI nt) = False := by
      rw [show i = nt by omega]
      exact eq_false Int32.lt_irrefl
    rw [e_178_4]
    simp only [e_178_0, e_178_1, e_178_2, e_178_3, e_178_5, e_178_6, e_178_9, e_178_12, e_178_13, e_178_14, e_178_15, e_178_18, e_178_20, e_178_21, e_178_23, e_178_24, e_178_27, e_178_29, e_178_31, e_178_34, e_178_35, e_178_38, e_178_40, e_178_41, e_178_42, e_178_45, e_178_46, e_178_47, e_178_48, e_178_51, e_178_52, e_178_53, e_178_54, e_178_57, e_178_60, e_178_61, rf_56_0 hR, rf_56_4 hR, rf_56_5 hR, rf_56_6 hR, rf_56_7 hR, rf_56_8 hR, rf_56_9 hR, rf_56_10 hR, rf_56_11 hR, rf_56_12 hR, rf_56_14 hR, rf_56_15 hR, rf_56_19 hR, rf_56_20 hR, rf_56_21 hR, rf_56_22 hR, rf_56_23 hR, rf_56_24 hR, rf_56_25 hR, rf_56_26 hR, rf_56_27 hR, rf_56_29 hR, rf_56_32 hR, rf_56_33 hR, rf_56_34 hR, rf_56_37 hR, rf_56_38 hR, kn_56, kn_57, kn_58, kn_59, kn_60, kn_61, kn_62, kn_63, kn_64, kn_65, kn_66, kn_67, kn_68, kn_69, kn_70, kn_71, kn_72, kn_73, kn_74, kn_75, kn_76, kn_77, kn_78, kn_79, kn_80, kn_81, kn_82, kn_83, ln_57, ln_58, ln_59, ln_60, ln_61, ln_62, ln_63, ln_64, ln_65, ln_66, ln_67, ln_68, ln_69, ln_70, ln_71, ln_72, ln_73, ln_74, ln_75, ln_76, ln_77, ln_78, ln_79, ln_80, ln_81, ln_82, ln_83, va_rf_some, push_s, push_n, nb0, nb1, nbb, Nat.reduceLT, hW.2.1, hn, if_false]
    rw [ha, show i = nt by omega]
  | j + 1, i, acc, l4, hj, ha => by
    have h16 := hW.2.2.2.1
    have h6 := hW.2.2.1
    have hn : (nI i < nI nt) = True := eq_true (nI_lt (by omega) (by omega))
    have hf := mW_ch hW (show i < nt by omega) 15
    have hf' : fin pl i < 100 := by unfold fin; omega
    have hyr := hY.2.1
    have e1 : (nI (fin pl i) = nI r) = (fin pl i = r) := propext (nI_eq (by omega) (by omega))
    have e2 : (nI (fin pl i) = 30) = (fin pl i = 30) := propext (nI_eq (b := 30) (by omega) (by omega))
    have e3 : (nI y = nI r) = (y = r) := propext (nI_eq (by omega) (by omega))
    have e4 : ((-4 : Int32) = nI r) = False := eq_false (fun e => by
      have := nI_pos (n := r) (by omega)
      rw [← e] at this
      exact this (by decide))
    have e5 : ((-4 : Int32) = 30) = False := eq_false (by decide)
    have hend := fun {Q} => m_end (E := E) (Q := Q) (J := J) hR hW (show i < nt by omega) true
    have h48 : tm_inb 48 468 = true := by decide
    have hc48 : (48 : Int32).toNatClampNeg = 48 := by decide
    have hb1 : b2i true = 1 := rfl
    rw [hb1] at hend
    have ih := fun acc' l4' e => m_out_loop hR hW hY hr j (i + 1) acc' l4' (by omega) e
    rw [e_178_4]
    simp only [e_178_0, e_178_1, e_178_2, e_178_3, e_178_5, e_178_6, e_178_9, e_178_12, e_178_13, e_178_14, e_178_15, e_178_18, e_178_20, e_178_21, e_178_23, e_178_24, e_178_27, e_178_29, e_178_31, e_178_34, e_178_35, e_178_38, e_178_40, e_178_41, e_178_42, e_178_45, e_178_46, e_178_47, e_178_48, e_178_51, e_178_52, e_178_53, e_178_54, e_178_57, e_178_60, e_178_61, rf_56_0 hR, rf_56_4 hR, rf_56_5 hR, rf_56_6 hR, rf_56_7 hR, rf_56_8 hR, rf_56_9 hR, rf_56_10 hR, rf_56_11 hR, rf_56_12 hR, rf_56_14 hR, rf_56_15 hR, rf_56_19 hR, rf_56_20 hR, rf_56_21 hR, rf_56_22 hR, rf_56_23 hR, rf_56_24 hR, rf_56_25 hR, rf_56_26 hR, rf_56_27 hR, rf_56_29 hR, rf_56_32 hR, rf_56_33 hR, rf_56_34 hR, rf_56_37 hR, rf_56_38 hR, kn_56, kn_57, kn_58, kn_59, kn_60, kn_61, kn_62, kn_63, kn_64, kn_65, kn_66, kn_67, kn_68, kn_69, kn_70, kn_71, kn_72, kn_73, kn_74, kn_75, kn_76, kn_77, kn_78, kn_79, kn_80, kn_81, kn_82, kn_83, ln_57, ln_58, ln_59, ln_60, ln_61, ln_62, ln_63, ln_64, ln_65, ln_66, ln_67, ln_68, ln_69, ln_70, ln_71, ln_72, ln_73, ln_74, ln_75, ln_76, ln_77, ln_78, ln_79, ln_80, ln_81, ln_82, ln_83, va_rf_some, push_s, push_n, nb0, nb1, nbb, Nat.reduceLT, hW.2.1, hn, if_true, hend, h48, hc48, hY.1, Bool.true_and]
    cases hh : hid pl (mshut I) i with
    | true =>
      simp only [if_true, e4, e5, if_false, nI_1]
      exact ih _ _ (by rw [so, ha, outb, hh]; rfl)
    | false =>
      simp only [Bool.false_eq_true, if_false, e1, e2, e3, nI_1]
      by_cases h1 : fin pl i = r
      · rw [if_pos h1]
        exact ih _ _ (by rw [so, ha, outb, hh]; simp [h1])
      · rw [if_neg h1]
        by_cases h2 : fin pl i = 30
        · rw [if_pos h2]
          by_cases h3 : y = r
          · rw [if_pos h3]
            exact ih _ _ (by rw [so, ha, outb, hh]; simp [h2, h3])
          · rw [if_neg h3]
            exact ih _ _ (by rw [so, ha, outb, hh]; simp [h1, h3])
        · rw [if_neg h2]
          exact ih _ _ (by rw [so, ha, outb, hh]; simp [h1, h2])
theorem m_out (hR : tRef h d R) (hW : mW I nr nt pl) (hY : mY I nr nt y) {r : Nat} (hr : r < 6) : tEv E 178 0 [.ref 56, .int (nI r), tm_dum, tm_dum, tm_dum] [] (mS I J R) Q = Q (some (so (outb pl (mshut I) y r) nt)) (mS I J R) := by
  simp only [e_178_0, e_178_1, e_178_2, e_178_3]
  exact m_out_loop hR hW hY hr nt 0 0 tm_dum (by omega) rfl
end M3
