/-! ===== the model: words ===== -/
section WE
variable {E : tm_Env} {Q : Option Int32 → tm_St → Prop} {S : tm_St}
theorem e_138_1 {l0 l3 : Value} {x : Int64} {s0 : Int32} : tEv E 138 1 [l0, .long x, tm_dum, l3] [.int s0] S Q = tEv E 138 2 [l0, .long x, tm_dum, .int s0] [] S Q := tEv_next rfl rfl rfl rfl
theorem e_138_21 {l0 : Value} {x : Int64} {s0 : Int32} : tEv E 138 21 [l0, .long x, tm_dum, .int s0] [] S Q = tEv E 138 24 [l0, .long x, tm_dum, .int (s0 + 1)] [] S Q := tEv_next rfl rfl rfl rfl
theorem e_139_6 {a : Nat} {l1 l2 l3 l4 l5 l6 : Value} {s0 : Int32} : tEv E 139 6 [.ref a, l1, l2, l3, l4, l5, l6] [.int s0] S Q = tEv E 139 7 [.ref a, .int s0, l2, l3, l4, l5, l6] [] S Q := tEv_next rfl rfl rfl rfl
theorem e_139_8 {a : Nat} {x1 : Int32} {l2 l3 l4 l5 l6 : Value} {s0 : Int32} : tEv E 139 8 [.ref a, .int x1, l2, l3, l4, l5, l6] [.int s0] S Q = tEv E 139 9 [.ref a, .int x1, .int s0, l3, l4, l5, l6] [] S Q := tEv_next rfl rfl rfl rfl
theorem e_139_22 {a : Nat} {x1 x2 : Int32} {l3 l4 l5 l6 : Value} {s0 : Int64} : tEv E 139 22 [.ref a, .int x1, .int x2, l3, l4, l5, l6] [.long s0] S Q = tEv E 139 23 [.ref a, .int x1, .int x2, .long s0, tm_dum, l5, l6] [] S Q := tEv_next rfl rfl rfl rfl
theorem e_139_24 {a : Nat} {x1 x2 : Int32} {x3 : Int64} {l5 l6 : Value} {s0 : Int32} : tEv E 139 24 [.ref a, .int x1, .int x2, .long x3, tm_dum, l5, l6] [.int s0] S Q = tEv E 139 26 [.ref a, .int x1, .int x2, .long x3, tm_dum, .int s0, l6] [] S Q := tEv_next rfl rfl rfl rfl
theorem e_139_63 {a : Nat} {x1 x2 : Int32} {l3 l4 l5 l6 : Value} {s0 : Int64} : tEv E 139 63 [.ref a, .int x1, .int x2, l3, l4, l5, l6] [.long s0] S Q = tEv E 139 64 [.ref a, .int x1, .int x2, .long s0, tm_dum, l5, l6] [] S Q := tEv_next rfl rfl rfl rfl
theorem e_139_64 {a : Nat} {x1 : Int32} {l2 l3 l4 l5 l6 : Value} : tEv E 139 64 [.ref a, .int x1, l2, l3, l4, l5, l6] [] S Q = tEv E 139 67 [.ref a, .int (x1 + 1), l2, l3, l4, l5, l6] [] S Q := tEv_next rfl rfl rfl rfl
theorem e_139_89 {a : Nat} {x1 x2 x5 : Int32} {x3 : Int64} {l6 : Value} {s0 : Int32} : tEv E 139 89 [.ref a, .int x1, .int x2, .long x3, tm_dum, .int x5, l6] [.int s0] S Q = tEv E 139 91 [.ref a, .int x1, .int x2, .long x3, tm_dum, .int x5, .int s0] [] S Q := tEv_next rfl rfl rfl rfl
theorem e_139_122 {a : Nat} {x1 : Int32} {l2 l3 l4 l5 l6 : Value} {s0 : Int32} : tEv E 139 122 [.ref a, .int x1, l2, l3, l4, l5, l6] [.int s0] S Q = tEv E 139 123 [.ref a, .int x1, .int s0, l3, l4, l5, l6] [] S Q := tEv_next rfl rfl rfl rfl
theorem e_139_144 {a : Nat} {x1 : Int32} {l2 l3 l4 l5 l6 : Value} : tEv E 139 144 [.ref a, .int x1, l2, l3, l4, l5, l6] [] S Q = tEv E 139 147 [.ref a, .int (x1 + 1), l2, l3, l4, l5, l6] [] S Q := tEv_next rfl rfl rfl rfl
end WE
theorem lg_eq0 (x y : Int64) : (lg_cmp x y = 0) = (x = y) := by
  apply propext
  unfold lg_cmp
  by_cases h1 : x > y
  · rw [if_pos h1]
    exact ⟨fun h => absurd h (by decide), fun h => absurd h1 (by rw [h]; exact Int64.lt_irrefl)⟩
  · rw [if_neg h1]
    by_cases h2 : x = y
    · rw [if_pos h2]
      exact ⟨fun _ => h2, fun _ => rfl⟩
    · rw [if_neg h2]
      exact ⟨fun h => absurd h (by decide), fun h => absurd h h2⟩
/-- the number of a word, by its packed letters -/
def wrd (J : Nat → Nat → Int64) (v : Int64) : Nat → Nat → Int32
  | 0, _ => -4
  | f + 1, k => if J 67 k = v then nI k else wrd J v f (k + 1)
def pkv (tc : Nat → Nat) (k : Nat) : Nat → Int64
  | 0 => 0
  | m + 1 => 256 * (pkv tc k m - pkv tc k m / 72057594037927936 * 72057594037927936) + (nI (tc (k + m))).toInt64
def sml (c : Nat) : Bool := decide (97 ≤ c ∧ c ≤ 122)
/-- how many small letters stand at k -/
def sln (n : Nat) (tc : Nat → Nat) : Nat → Nat → Nat
  | 0, _ => 0
  | f + 1, k => if (decide (k < n) && sml (tc k)) = true then sln n tc f (k + 1) + 1 else 0
section WD
variable {E : tm_Env} {Q : Option Int32 → tm_St → Prop} {I : Nat → Nat → Int32} {J : Nat → Nat → Int64} {R : Nat → Nat → Option Nat} {h d : Nat} {n p : Nat} {tc : Nat → Nat}
theorem m_word_loop (hR : tRef h d R) {v : Int64} : ∀ f k, k + f = 43 → tEv E 138 2 [.ref 56, .long v, tm_dum, .int (nI k)] [] (mS I J R) Q = Q (some (wrd J v f k)) (mS I J R)
  | 0, k, hk => by
    obtain rfl : k = 43 := by omega
    have hn : (nI 43 < (43 : Int32)) = False := eq_false (by decide)
    rw [e_138_2]
    simp only [e_138_0, e_138_3, e_138_5, e_138_8, e_138_9, e_138_12, e_138_13, e_138_14, e_138_15, e_138_16, e_138_19, e_138_20, e_138_24, e_138_27, e_138_29, rf_56_0 hR, rf_56_4 hR, rf_56_5 hR, rf_56_6 hR, rf_56_7 hR, rf_56_8 hR, rf_56_9 hR, rf_56_10 hR, rf_56_11 hR, rf_56_12 hR, rf_56_14 hR, rf_56_15 hR, rf_56_19 hR, rf_56_20 hR, rf_56_21 hR, rf_56_22 hR, rf_56_23 hR, rf_56_24 hR, rf_56_25 hR, rf_56_26 hR, rf_56_27 hR, rf_56_29 hR, rf_56_32 hR, rf_56_33 hR, rf_56_34 hR, rf_56_37 hR, rf_56_38 hR, kn_56, kn_57, kn_58, kn_59, kn_60, kn_61, kn_62, kn_63, kn_64, kn_65, kn_66, kn_67, kn_68, kn_69, kn_70, kn_71, kn_72, kn_73, kn_74, kn_75, kn_76, kn_77, kn_78, kn_79, kn_80, kn_81, kn_82, kn_83, ln_57, ln_58, ln_59, ln_60, ln_61, ln_62, ln_63, ln_64, ln_65, ln_66, ln_67, ln_68, ln_69, ln_70, ln_71, ln_72, ln_73, ln_74, ln_75, ln_76, ln_77, ln_78, ln_79, ln_80, ln_81, ln_82, ln_83, va_rf_some, push_s, push_n, nb0, nb1, nbb, Nat.reduceLT, hn, if_false]
    rfl
  | f + 1, k, hk => by
    have hn : (nI k < (43 : Int32)) = True := eq_true (nI_lt (b := 43) (by omega) (by omega))
    have hix := inb_nI (j := k) (n := 43) (by omega) (by decide)
    have hcl := nI_cl (n := k) (by omega)
    have ih := m_word_loop hR (v := v) f (k + 1) (by omega)
    rw [e_138_2]
    simp only [e_138_0, e_138_3, e_138_5, e_138_8, e_138_9, e_138_12, e_138_13, e_138_14, e_138_15, e_138_16, e_138_19, e_138_20, e_138_24, e_138_27, e_138_29, e_138_21, rf_56_0 hR, rf_56_4 hR, rf_56_5 hR, rf_56_6 hR, rf_56_7 hR, rf_56_8 hR, rf_56_9 hR, rf_56_10 hR, rf_56_11 hR, rf_56_12 hR, rf_56_14 hR, rf_56_15 hR, rf_56_19 hR, rf_56_20 hR, rf_56_21 hR, rf_56_22 hR, rf_56_23 hR, rf_56_24 hR, rf_56_25 hR, rf_56_26 hR, rf_56_27 hR, rf_56_29 hR, rf_56_32 hR, rf_56_33 hR, rf_56_34 hR, rf_56_37 hR, rf_56_38 hR, kn_56, kn_57, kn_58, kn_59, kn_60, kn_61, kn_62, kn_63, kn_64, kn_65, kn_66, kn_67, kn_68, kn_69, kn_70, kn_71, kn_72, kn_73, kn_74, kn_75, kn_76, kn_77, kn_78, kn_79, kn_80, kn_81, kn_82, kn_83, ln_57, ln_58, ln_59, ln_60, ln_61, ln_62, ln_63, ln_64, ln_65, ln_66, ln_67, ln_68, ln_69, ln_70, ln_71, ln_72, ln_73, ln_74, ln_75, ln_76, ln_77, ln_78, ln_79, ln_80, ln_81, ln_82, ln_83, va_rf_some, push_s, push_n, nb0, nb1, nbb, Nat.reduceLT, hn, if_true, hix, hcl, lg_eq0, nI_1]
    unfold wrd
    by_cases c : J 67 k = v
    · rw [if_pos c, if_pos c]
    · rw [if_neg c, if_neg c]
      exact ih
theorem m_word (hR : tRef h d R) {v : Int64} : tEv E 138 0 [.ref 56, .long v, tm_dum, tm_dum] [] (mS I J R) Q = Q (some (wrd J v 43 0)) (mS I J R) := by
  simp only [e_138_0, e_138_1]
  exact m_word_loop hR 43 0 rfl
theorem m_isSmall {M : tm_Mem} {c : Nat} (hc : c < 1000) : tEv E 137 0 [.int (nI c)] [] (M, 0, 0) Q = Q (some (b2i (sml c))) (M, 0, 0) := by
  have hin := fun {S Q} => m_inN_97_122 (E := E) (S := S) (Q := Q) (p := c) (by omega)
  simp only [e_137_0, e_137_1, e_137_2, e_137_5, e_137_8, e_137_11, va_rf_some, push_s, push_n, nb0, nb1, nbb, Nat.reduceLT, hin]
  rfl
theorem m_rw_in (hR : tRef h d R) (hT : TX I n tc) {x2 x5 : Int32} {l6 : Value} {k0 : Nat} : ∀ f m k, k = k0 + m → n < k + f → k ≤ n → tEv E 139 26 [.ref 56, .int (nI k), .int x2, .long (pkv tc k0 m), tm_dum, .int x5, l6] [] (mS I J R) Q = tEv E 139 70 [.ref 56, .int (nI (k + sln n tc f k)), .int x2, .long (pkv tc k0 (m + sln n tc f k)), tm_dum, .int x5, l6] [] (mS I J R) Q
  | 0, m, k, hm, hf, hk => by omega
  | f + 1, m, k, hm, hf, hk => by
    have hn := hT.2.1
    have hlt : (nI k < nI n) = (k < n) := propext (nI_ltI (by omega) (by omega))
    have n0 : ¬ ((72057594037927936 : Int64) = 0) := by decide
    unfold sln
    by_cases c : k < n
    · have ht := hT.2.2 k c
      have hix := inb_nI (j := k) (n := 240) (by omega) (by decide)
      have hcl := nI_cl (n := k) (by omega)
      cases c2 : sml (tc k) with
      | true =>
        have ih := m_rw_in hR hT (x2 := x2) (x5 := x5) (l6 := l6) (k0 := k0) f (m + 1) (k + 1) (by omega) (by omega) (by omega)
        rw [e_139_26]
        simp only [e_139_27, e_139_28, e_139_31, e_139_34, e_139_35, e_139_38, e_139_39, e_139_40, e_139_43, e_139_46, e_139_49, e_139_50, e_139_53, e_139_54, e_139_55, e_139_56, e_139_59, e_139_60, e_139_61, e_139_62, e_139_67, e_139_53 n0, e_139_63, e_139_64, rf_56_0 hR, rf_56_4 hR, rf_56_5 hR, rf_56_6 hR, rf_56_7 hR, rf_56_8 hR, rf_56_9 hR, rf_56_10 hR, rf_56_11 hR, rf_56_12 hR, rf_56_14 hR, rf_56_15 hR, rf_56_19 hR, rf_56_20 hR, rf_56_21 hR, rf_56_22 hR, rf_56_23 hR, rf_56_24 hR, rf_56_25 hR, rf_56_26 hR, rf_56_27 hR, rf_56_29 hR, rf_56_32 hR, rf_56_33 hR, rf_56_34 hR, rf_56_37 hR, rf_56_38 hR, kn_56, kn_57, kn_58, kn_59, kn_60, kn_61, kn_62, kn_63, kn_64, kn_65, kn_66, kn_67, kn_68, kn_69, kn_70, kn_71, kn_72, kn_73, kn_74, kn_75, kn_76, kn_77, kn_78, kn_79, kn_80, kn_81, kn_82, kn_83, ln_57, ln_58, ln_59, ln_60, ln_61, ln_62, ln_63, ln_64, ln_65, ln_66, ln_67, ln_68, ln_69, ln_70, ln_71, ln_72, ln_73, ln_74, ln_75, ln_76, ln_77, ln_78, ln_79, ln_80, ln_81, ln_82, ln_83, va_rf_some, push_s, push_n, nb0, nb1, nbb, Nat.reduceLT, hT.1, hlt, c, if_true, hix, hcl, ht.1, m_isSmall (show tc k < 1000 by omega), c2, b2i_0, Bool.true_eq_false, if_false, decide_true, Bool.and_self, nI_1]
        have e : (256 : Int64) * (pkv tc k0 m - pkv tc k0 m / 72057594037927936 * 72057594037927936) + (nI (tc k)).toInt64 = pkv tc k0 (m + 1) := by rw [hm]; rfl
        rw [e, ih, show k + 1 + sln n tc f (k + 1) = k + (sln n tc f (k + 1) + 1) by omega, show m + 1 + sln n tc f (k + 1) = m + (sln n tc f (k + 1) + 1) by omega]
      | false =>
        simp only [e_139_26, e_139_27, e_139_28, e_139_31, e_139_34, e_139_35, e_139_38, e_139_39, e_139_40, e_139_43, rf_56_0 hR, rf_56_4 hR, rf_56_5 hR, rf_56_6 hR, rf_56_7 hR, rf_56_8 hR, rf_56_9 hR, rf_56_10 hR, rf_56_11 hR, rf_56_12 hR, rf_56_14 hR, rf_56_15 hR, rf_56_19 hR, rf_56_20 hR, rf_56_21 hR, rf_56_22 hR, rf_56_23 hR, rf_56_24 hR, rf_56_25 hR, rf_56_26 hR, rf_56_27 hR, rf_56_29 hR, rf_56_32 hR, rf_56_33 hR, rf_56_34 hR, rf_56_37 hR, rf_56_38 hR, kn_56, kn_57, kn_58, kn_59, kn_60, kn_61, kn_62, kn_63, kn_64, kn_65, kn_66, kn_67, kn_68, kn_69, kn_70, kn_71, kn_72, kn_73, kn_74, kn_75, kn_76, kn_77, kn_78, kn_79, kn_80, kn_81, kn_82, kn_83, ln_57, ln_58, ln_59, ln_60, ln_61, ln_62, ln_63, ln_64, ln_65, ln_66, ln_67, ln_68, ln_69, ln_70, ln_71, ln_72, ln_73, ln_74, ln_75, ln_76, ln_77, ln_78, ln_79, ln_80, ln_81, ln_82, ln_83, va_rf_some, push_s, push_n, nb0, nb1, nbb, Nat.reduceLT, hT.1, hlt, c, if_true, hix, hcl, ht.1, m_isSmall (show tc k < 1000 by omega), c2, b2i_0, decide_true, Bool.and_false, Bool.false_eq_true, if_false, Nat.add_zero]
    · simp only [e_139_26, e_139_27, e_139_28, e_139_31, e_139_34, e_139_35, e_139_38, e_139_39, e_139_40, e_139_43, rf_56_0 hR, rf_56_4 hR, rf_56_5 hR, rf_56_6 hR, rf_56_7 hR, rf_56_8 hR, rf_56_9 hR, rf_56_10 hR, rf_56_11 hR, rf_56_12 hR, rf_56_14 hR, rf_56_15 hR, rf_56_19 hR, rf_56_20 hR, rf_56_21 hR, rf_56_22 hR, rf_56_23 hR, rf_56_24 hR, rf_56_25 hR, rf_56_26 hR, rf_56_27 hR, rf_56_29 hR, rf_56_32 hR, rf_56_33 hR, rf_56_34 hR, rf_56_37 hR, rf_56_38 hR, kn_56, kn_57, kn_58, kn_59, kn_60, kn_61, kn_62, kn_63, kn_64, kn_65, kn_66, kn_67, kn_68, kn_69, kn_70, kn_71, kn_72, kn_73, kn_74, kn_75, kn_76, kn_77, kn_78, kn_79, kn_80, kn_81, kn_82, kn_83, ln_57, ln_58, ln_59, ln_60, ln_61, ln_62, ln_63, ln_64, ln_65, ln_66, ln_67, ln_68, ln_69, ln_70, ln_71, ln_72, ln_73, ln_74, ln_75, ln_76, ln_77, ln_78, ln_79, ln_80, ln_81, ln_82, ln_83, va_rf_some, push_s, push_n, nb0, nb1, nbb, Nat.reduceLT, hT.1, hlt, c, if_false, decide_false, Bool.false_and, Bool.false_eq_true, Nat.add_zero]
end WD
def wnm (J : Nat → Nat → Int64) (n : Nat) (tc : Nat → Nat) (k : Nat) : Int32 := if 6 < sln n tc (n + 1) k then -4 else wrd J (pkv tc k (sln n tc (n + 1) k)) 43 0
def wend (n : Nat) (tc : Nat → Nat) (k : Nat) : Nat := k + sln n tc (n + 1) k
def okw (J : Nat → Nat → Int64) (n : Nat) (tc : Nat → Nat) (k : Nat) : Bool := !decide (wnm J n tc k = -4) && (decide (wend n tc k = n) || decide (tc (wend n tc k) = 32))
/-- all words: whether each is one, how many, and which -/
def rwd (J : Nat → Nat → Int64) (n : Nat) (tc : Nat → Nat) : Nat → Nat → Nat → (Nat → Int32) → Bool × Nat × (Nat → Int32)
  | 0, _, c, f => (true, c, f)
  | fu + 1, k, c, f => if k ≤ n then (if okw J n tc k = true then rwd J n tc fu (wend n tc k + 1) (c + 1) (upd f c (wnm J n tc k)) else (false, c + 1, upd f c (wnm J n tc k))) else (true, c, f)
theorem sln_le (n : Nat) (tc : Nat → Nat) : ∀ f k, k ≤ n → k + sln n tc f k ≤ n
  | 0, k, h => h
  | f + 1, k, h => by
    unfold sln
    by_cases c : (decide (k < n) && sml (tc k)) = true
    · rw [if_pos c]
      simp only [Bool.and_eq_true, decide_eq_true_eq] at c
      have := sln_le n tc f (k + 1) (by omega)
      omega
    · rw [if_neg c]
      omega
section WD2
variable {E : tm_Env} {Q : Option Int32 → tm_St → Prop} {I : Nat → Nat → Int32} {J : Nat → Nat → Int64} {R : Nat → Nat → Option Nat} {h d : Nat} {n p : Nat} {tc : Nat → Nat}
/-- the memory with the words said -/
def sdS (I : Nat → Nat → Int32) (c : Nat) (f : Nat → Int32) : Nat → Nat → Int32 := va_up (va_up I 56 (upd (I 56) 30 (nI c))) 78 f
theorem sdS_30 {c : Nat} {f : Nat → Int32} : sdS I c f 56 30 = nI c := Eq.trans rfl rfl
theorem sdS_13 {c : Nat} {f : Nat → Int32} : sdS I c f 56 13 = I 56 13 := Eq.trans rfl rfl
theorem sdS_66 {c : Nat} {f : Nat → Int32} : sdS I c f 66 = I 66 := Eq.trans rfl rfl
theorem sdS_78 {c : Nat} {f : Nat → Int32} : sdS I c f 78 = f := Eq.trans rfl rfl
theorem sdS_up {c e : Nat} {f g : Nat → Int32} : va_up (va_up (sdS I c f) 78 g) 56 (upd (sdS I c f 56) 30 (nI e)) = sdS I e g := by
  unfold sdS
  rw [vu_vu, vu_comm _ (k := 78) (j := 56) (by decide), vu_vu]
  congr 2
  rw [vu, if_neg (by decide), vu, if_pos rfl, upd_upd]
theorem okw_pos (hJ : wrd J 0 43 0 = -4) {k : Nat} (h : okw J n tc k = true) : k < wend n tc k := by
  unfold okw wnm at h
  unfold wend
  rcases Nat.eq_zero_or_pos (sln n tc (n + 1) k) with q | q
  · have e : (if 6 < sln n tc (n + 1) k then (-4 : Int32) else wrd J (pkv tc k (sln n tc (n + 1) k)) 43 0) = -4 := by
      rw [q]
      exact (if_neg (by decide)).trans hJ
    rw [e] at h
    simp at h
  · omega
theorem m_readsWords_loop (hR : tRef h d R) (hT : TX I n tc) (hJ : wrd J 0 43 0 = -4) : ∀ fu k c f l3 l4 l5 l6, n + 1 < k + fu → k ≤ n + 1 → 2 * c ≤ k →
    tEv E 139 9 [.ref 56, .int (nI k), .int 1, l3, l4, l5, l6] [] (mS (sdS I c f) J R) Q = Q (some (b2i (rwd J n tc fu k c f).1)) (mS (sdS I (rwd J n tc fu k c f).2.1 (rwd J n tc fu k c f).2.2) J R)
  | 0, k, c, f, l3, l4, l5, l6, hf, hk, hc => by omega
  | fu + 1, k, c, f, l3, l4, l5, l6, hf, hk, hc => by
    have hn := hT.2.1
    have hgt : (nI n < nI k) = (n < k) := propext (nI_ltI (by omega) (by omega))
    have h10 : ((1 : Int32) = 0) = False := eq_false (by decide)
    unfold rwd
    by_cases c1 : k ≤ n
    · have c2 : ¬ n < k := by omega
      have hin := fun {x2 l6 Q} => m_rw_in (E := E) (Q := Q) (J := J) (I := sdS I c f) hR hT (x2 := x2) (x5 := nI k) (l6 := l6) (k0 := k) (n + 1) 0 k (by omega) (by omega) c1
      have hsl := sln_le n tc (n + 1) k c1
      have e0 : pkv tc k 0 = 0 := rfl
      rw [e0] at hin
      simp only [Nat.zero_add] at hin
      have hsub : nI (k + sln n tc (n + 1) k) - nI k = nI (sln n tc (n + 1) k) := by
        rw [show nI (k + sln n tc (n + 1) k) - nI k = nI (k + sln n tc (n + 1) k - k) from pk_sub (by omega)]
        congr 1
        omega
      have h6 : ((6 : Int32) < nI (sln n tc (n + 1) k)) = (6 < sln n tc (n + 1) k) := propext (nI_ltI (a := 6) (by omega) (by omega))
      have hend : (nI (k + sln n tc (n + 1) k) = nI n) = (k + sln n tc (n + 1) k = n) := propext (nI_eq (by omega) (by omega))
      have hixc := inb_nI (j := c) (n := 121) (by omega) (by decide)
      have hclc := nI_cl (n := c) (by omega)
      rw [if_pos c1]
      simp only [e_139_9, e_139_10, e_139_13, e_139_14, e_139_15, e_139_18, e_139_21, e_139_23, e_139_22, e_139_24, rf_56_0 hR, rf_56_4 hR, rf_56_5 hR, rf_56_6 hR, rf_56_7 hR, rf_56_8 hR, rf_56_9 hR, rf_56_10 hR, rf_56_11 hR, rf_56_12 hR, rf_56_14 hR, rf_56_15 hR, rf_56_19 hR, rf_56_20 hR, rf_56_21 hR, rf_56_22 hR, rf_56_23 hR, rf_56_24 hR, rf_56_25 hR, rf_56_26 hR, rf_56_27 hR, rf_56_29 hR, rf_56_32 hR, rf_56_33 hR, rf_56_34 hR, rf_56_37 hR, rf_56_38 hR, kn_56, kn_57, kn_58, kn_59, kn_60, kn_61, kn_62, kn_63, kn_64, kn_65, kn_66, kn_67, kn_68, kn_69, kn_70, kn_71, kn_72, kn_73, kn_74, kn_75, kn_76, kn_77, kn_78, kn_79, kn_80, kn_81, kn_82, kn_83, ln_57, ln_58, ln_59, ln_60, ln_61, ln_62, ln_63, ln_64, ln_65, ln_66, ln_67, ln_68, ln_69, ln_70, ln_71, ln_72, ln_73, ln_74, ln_75, ln_76, ln_77, ln_78, ln_79, ln_80, ln_81, ln_82, ln_83, va_rf_some, push_s, push_n, nb0, nb1, nbb, Nat.reduceLT, h10, if_false, sdS_13, hT.1, hgt, c2]
      rw [hin]
      simp only [e_139_70, e_139_71, e_139_73, e_139_74, e_139_76, e_139_79, e_139_81, e_139_84, e_139_85, e_139_86, e_139_89, rf_56_0 hR, rf_56_4 hR, rf_56_5 hR, rf_56_6 hR, rf_56_7 hR, rf_56_8 hR, rf_56_9 hR, rf_56_10 hR, rf_56_11 hR, rf_56_12 hR, rf_56_14 hR, rf_56_15 hR, rf_56_19 hR, rf_56_20 hR, rf_56_21 hR, rf_56_22 hR, rf_56_23 hR, rf_56_24 hR, rf_56_25 hR, rf_56_26 hR, rf_56_27 hR, rf_56_29 hR, rf_56_32 hR, rf_56_33 hR, rf_56_34 hR, rf_56_37 hR, rf_56_38 hR, kn_56, kn_57, kn_58, kn_59, kn_60, kn_61, kn_62, kn_63, kn_64, kn_65, kn_66, kn_67, kn_68, kn_69, kn_70, kn_71, kn_72, kn_73, kn_74, kn_75, kn_76, kn_77, kn_78, kn_79, kn_80, kn_81, kn_82, kn_83, ln_57, ln_58, ln_59, ln_60, ln_61, ln_62, ln_63, ln_64, ln_65, ln_66, ln_67, ln_68, ln_69, ln_70, ln_71, ln_72, ln_73, ln_74, ln_75, ln_76, ln_77, ln_78, ln_79, ln_80, ln_81, ln_82, ln_83, va_rf_some, push_s, push_n, nb0, nb1, nbb, Nat.reduceLT, hsub, h6, m_word hR]
      have tail : ∀ v, v = wnm J n tc k → tEv E 139 91 [.ref 56, .int (nI (k + sln n tc (n + 1) k)), .int 1, .long (pkv tc k (sln n tc (n + 1) k)), tm_dum, .int (nI k), .int v] [] (mS (sdS I c f) J R) Q = if okw J n tc k = true then tEv E 139 9 [.ref 56, .int (nI (wend n tc k + 1)), .int 1, .long (pkv tc k (sln n tc (n + 1) k)), tm_dum, .int (nI k), .int v] [] (mS (sdS I (c + 1) (upd f c (wnm J n tc k))) J R) Q else tEv E 139 9 [.ref 56, .int (nI (wend n tc k + 1)), .int 0, .long (pkv tc k (sln n tc (n + 1) k)), tm_dum, .int (nI k), .int v] [] (mS (sdS I (c + 1) (upd f c (wnm J n tc k))) J R) Q := by
        intro v hv
        have e30 : va_up (sdS I c f) 78 (upd f c v) 56 30 = nI c := rfl
        have e56 : va_up (sdS I c f) 78 (upd f c v) 56 = sdS I c f 56 := rfl
        have hup : va_up (va_up (sdS I c f) 78 (upd f c v)) 56 (upd (sdS I c f 56) 30 (nI (c + 1))) = sdS I (c + 1) (upd f c v) := sdS_up
        unfold okw
        rw [← hv]
        by_cases d1 : v = -4
        · subst d1
          simp only [e_139_91, e_139_93, e_139_95, if_true, decide_true, Bool.not_true, Bool.false_and, Bool.false_eq_true, if_false, e_139_121, e_139_123, e_139_124, e_139_127, e_139_128, e_139_131, e_139_133, e_139_134, e_139_135, e_139_136, e_139_139, e_139_140, e_139_141, e_139_147, e_139_122, e_139_144, rf_56_0 hR, rf_56_4 hR, rf_56_5 hR, rf_56_6 hR, rf_56_7 hR, rf_56_8 hR, rf_56_9 hR, rf_56_10 hR, rf_56_11 hR, rf_56_12 hR, rf_56_14 hR, rf_56_15 hR, rf_56_19 hR, rf_56_20 hR, rf_56_21 hR, rf_56_22 hR, rf_56_23 hR, rf_56_24 hR, rf_56_25 hR, rf_56_26 hR, rf_56_27 hR, rf_56_29 hR, rf_56_32 hR, rf_56_33 hR, rf_56_34 hR, rf_56_37 hR, rf_56_38 hR, kn_56, kn_57, kn_58, kn_59, kn_60, kn_61, kn_62, kn_63, kn_64, kn_65, kn_66, kn_67, kn_68, kn_69, kn_70, kn_71, kn_72, kn_73, kn_74, kn_75, kn_76, kn_77, kn_78, kn_79, kn_80, kn_81, kn_82, kn_83, ln_57, ln_58, ln_59, ln_60, ln_61, ln_62, ln_63, ln_64, ln_65, ln_66, ln_67, ln_68, ln_69, ln_70, ln_71, ln_72, ln_73, ln_74, ln_75, ln_76, ln_77, ln_78, ln_79, ln_80, ln_81, ln_82, ln_83, va_rf_some, push_s, push_n, nb0, nb1, nbb, Nat.reduceLT, sdS_30, hixc, hclc, sdS_78, e30, e56, hup, nI_1]
          rfl
        · by_cases d2 : k + sln n tc (n + 1) k = n
          · simp only [e_139_91, e_139_93, e_139_95, e_139_98, e_139_99, e_139_100, e_139_103, d1, if_false, rf_56_0 hR, rf_56_4 hR, rf_56_5 hR, rf_56_6 hR, rf_56_7 hR, rf_56_8 hR, rf_56_9 hR, rf_56_10 hR, rf_56_11 hR, rf_56_12 hR, rf_56_14 hR, rf_56_15 hR, rf_56_19 hR, rf_56_20 hR, rf_56_21 hR, rf_56_22 hR, rf_56_23 hR, rf_56_24 hR, rf_56_25 hR, rf_56_26 hR, rf_56_27 hR, rf_56_29 hR, rf_56_32 hR, rf_56_33 hR, rf_56_34 hR, rf_56_37 hR, rf_56_38 hR, kn_56, kn_57, kn_58, kn_59, kn_60, kn_61, kn_62, kn_63, kn_64, kn_65, kn_66, kn_67, kn_68, kn_69, kn_70, kn_71, kn_72, kn_73, kn_74, kn_75, kn_76, kn_77, kn_78, kn_79, kn_80, kn_81, kn_82, kn_83, ln_57, ln_58, ln_59, ln_60, ln_61, ln_62, ln_63, ln_64, ln_65, ln_66, ln_67, ln_68, ln_69, ln_70, ln_71, ln_72, ln_73, ln_74, ln_75, ln_76, ln_77, ln_78, ln_79, ln_80, ln_81, ln_82, ln_83, va_rf_some, push_s, push_n, nb0, nb1, nbb, Nat.reduceLT, sdS_13, hT.1, hend, d2, if_true, e_139_117, e_139_118, e_139_121, e_139_123, e_139_124, e_139_127, e_139_128, e_139_131, e_139_133, e_139_134, e_139_135, e_139_136, e_139_139, e_139_140, e_139_141, e_139_147, e_139_122, e_139_144, rf_56_0 hR, rf_56_4 hR, rf_56_5 hR, rf_56_6 hR, rf_56_7 hR, rf_56_8 hR, rf_56_9 hR, rf_56_10 hR, rf_56_11 hR, rf_56_12 hR, rf_56_14 hR, rf_56_15 hR, rf_56_19 hR, rf_56_20 hR, rf_56_21 hR, rf_56_22 hR, rf_56_23 hR, rf_56_24 hR, rf_56_25 hR, rf_56_26 hR, rf_56_27 hR, rf_56_29 hR, rf_56_32 hR, rf_56_33 hR, rf_56_34 hR, rf_56_37 hR, rf_56_38 hR, kn_56, kn_57, kn_58, kn_59, kn_60, kn_61, kn_62, kn_63, kn_64, kn_65, kn_66, kn_67, kn_68, kn_69, kn_70, kn_71, kn_72, kn_73, kn_74, kn_75, kn_76, kn_77, kn_78, kn_79, kn_80, kn_81, kn_82, kn_83, ln_57, ln_58, ln_59, ln_60, ln_61, ln_62, ln_63, ln_64, ln_65, ln_66, ln_67, ln_68, ln_69, ln_70, ln_71, ln_72, ln_73, ln_74, ln_75, ln_76, ln_77, ln_78, ln_79, ln_80, ln_81, ln_82, ln_83, va_rf_some, push_s, push_n, nb0, nb1, nbb, Nat.reduceLT, sdS_30, hixc, hclc, sdS_78, e30, e56, hup, nI_1, wend, decide_false, decide_true, Bool.not_false, Bool.true_or, Bool.true_and]
          · have hix := inb_nI (j := k + sln n tc (n + 1) k) (n := 240) (by omega) (by decide)
            have hcl := nI_cl (n := k + sln n tc (n + 1) k) (by omega)
            have ht := hT.2.2 (k + sln n tc (n + 1) k) (by omega)
            have e32 : (nI (tc (k + sln n tc (n + 1) k)) = 32) = (tc (k + sln n tc (n + 1) k) = 32) := propext (nI_eq (b := 32) (by omega) (by omega))
            by_cases d3 : tc (k + sln n tc (n + 1) k) = 32
            · simp only [e_139_91, e_139_93, e_139_95, e_139_98, e_139_99, e_139_100, e_139_103, e_139_106, e_139_107, e_139_110, e_139_111, e_139_112, e_139_114, d1, if_false, rf_56_0 hR, rf_56_4 hR, rf_56_5 hR, rf_56_6 hR, rf_56_7 hR, rf_56_8 hR, rf_56_9 hR, rf_56_10 hR, rf_56_11 hR, rf_56_12 hR, rf_56_14 hR, rf_56_15 hR, rf_56_19 hR, rf_56_20 hR, rf_56_21 hR, rf_56_22 hR, rf_56_23 hR, rf_56_24 hR, rf_56_25 hR, rf_56_26 hR, rf_56_27 hR, rf_56_29 hR, rf_56_32 hR, rf_56_33 hR, rf_56_34 hR, rf_56_37 hR, rf_56_38 hR, kn_56, kn_57, kn_58, kn_59, kn_60, kn_61, kn_62, kn_63, kn_64, kn_65, kn_66, kn_67, kn_68, kn_69, kn_70, kn_71, kn_72, kn_73, kn_74, kn_75, kn_76, kn_77, kn_78, kn_79, kn_80, kn_81, kn_82, kn_83, ln_57, ln_58, ln_59, ln_60, ln_61, ln_62, ln_63, ln_64, ln_65, ln_66, ln_67, ln_68, ln_69, ln_70, ln_71, ln_72, ln_73, ln_74, ln_75, ln_76, ln_77, ln_78, ln_79, ln_80, ln_81, ln_82, ln_83, va_rf_some, push_s, push_n, nb0, nb1, nbb, Nat.reduceLT, sdS_13, sdS_66, hT.1, hend, d2, hix, hcl, ht.1, e32, d3, show (nI 32 = (32 : Int32)) = True from eq_true rfl, if_true, e_139_117, e_139_118, e_139_121, e_139_123, e_139_124, e_139_127, e_139_128, e_139_131, e_139_133, e_139_134, e_139_135, e_139_136, e_139_139, e_139_140, e_139_141, e_139_147, e_139_122, e_139_144, rf_56_0 hR, rf_56_4 hR, rf_56_5 hR, rf_56_6 hR, rf_56_7 hR, rf_56_8 hR, rf_56_9 hR, rf_56_10 hR, rf_56_11 hR, rf_56_12 hR, rf_56_14 hR, rf_56_15 hR, rf_56_19 hR, rf_56_20 hR, rf_56_21 hR, rf_56_22 hR, rf_56_23 hR, rf_56_24 hR, rf_56_25 hR, rf_56_26 hR, rf_56_27 hR, rf_56_29 hR, rf_56_32 hR, rf_56_33 hR, rf_56_34 hR, rf_56_37 hR, rf_56_38 hR, kn_56, kn_57, kn_58, kn_59, kn_60, kn_61, kn_62, kn_63, kn_64, kn_65, kn_66, kn_67, kn_68, kn_69, kn_70, kn_71, kn_72, kn_73, kn_74, kn_75, kn_76, kn_77, kn_78, kn_79, kn_80, kn_81, kn_82, kn_83, ln_57, ln_58, ln_59, ln_60, ln_61, ln_62, ln_63, ln_64, ln_65, ln_66, ln_67, ln_68, ln_69, ln_70, ln_71, ln_72, ln_73, ln_74, ln_75, ln_76, ln_77, ln_78, ln_79, ln_80, ln_81, ln_82, ln_83, va_rf_some, push_s, push_n, nb0, nb1, nbb, Nat.reduceLT, sdS_30, hixc, hclc, sdS_78, e30, e56, hup, nI_1, wend, decide_false, decide_true, Bool.not_false, Bool.or_true, Bool.true_and]
            · simp only [e_139_91, e_139_93, e_139_95, e_139_98, e_139_99, e_139_100, e_139_103, e_139_106, e_139_107, e_139_110, e_139_111, e_139_112, e_139_114, d1, if_false, rf_56_0 hR, rf_56_4 hR, rf_56_5 hR, rf_56_6 hR, rf_56_7 hR, rf_56_8 hR, rf_56_9 hR, rf_56_10 hR, rf_56_11 hR, rf_56_12 hR, rf_56_14 hR, rf_56_15 hR, rf_56_19 hR, rf_56_20 hR, rf_56_21 hR, rf_56_22 hR, rf_56_23 hR, rf_56_24 hR, rf_56_25 hR, rf_56_26 hR, rf_56_27 hR, rf_56_29 hR, rf_56_32 hR, rf_56_33 hR, rf_56_34 hR, rf_56_37 hR, rf_56_38 hR, kn_56, kn_57, kn_58, kn_59, kn_60, kn_61, kn_62, kn_63, kn_64, kn_65, kn_66, kn_67, kn_68, kn_69, kn_70, kn_71, kn_72, kn_73, kn_74, kn_75, kn_76, kn_77, kn_78, kn_79, kn_80, kn_81, kn_82, kn_83, ln_57, ln_58, ln_59, ln_60, ln_61, ln_62, ln_63, ln_64, ln_65, ln_66, ln_67, ln_68, ln_69, ln_70, ln_71, ln_72, ln_73, ln_74, ln_75, ln_76, ln_77, ln_78, ln_79, ln_80, ln_81, ln_82, ln_83, va_rf_some, push_s, push_n, nb0, nb1, nbb, Nat.reduceLT, sdS_13, sdS_66, hT.1, hend, d2, hix, hcl, ht.1, e32, d3, show (nI 32 = (32 : Int32)) = True from eq_true rfl, if_true, e_139_117, e_139_118, e_139_121, e_139_123, e_139_124, e_139_127, e_139_128, e_139_131, e_139_133, e_139_134, e_139_135, e_139_136, e_139_139, e_139_140, e_139_141, e_139_147, e_139_122, e_139_144, rf_56_0 hR, rf_56_4 hR, rf_56_5 hR, rf_56_6 hR, rf_56_7 hR, rf_56_8 hR, rf_56_9 hR, rf_56_10 hR, rf_56_11 hR, rf_56_12 hR, rf_56_14 hR, rf_56_15 hR, rf_56_19 hR, rf_56_20 hR, rf_56_21 hR, rf_56_22 hR, rf_56_23 hR, rf_56_24 hR, rf_56_25 hR, rf_56_26 hR, rf_56_27 hR, rf_56_29 hR, rf_56_32 hR, rf_56_33 hR, rf_56_34 hR, rf_56_37 hR, rf_56_38 hR, kn_56, kn_57, kn_58, kn_59, kn_60, kn_61, kn_62, kn_63, kn_64, kn_65, kn_66, kn_67, kn_68, kn_69, kn_70, kn_71, kn_72, kn_73, kn_74, kn_75, kn_76, kn_77, kn_78, kn_79, kn_80, kn_81, kn_82, kn_83, ln_57, ln_58, ln_59, ln_60, ln_61, ln_62, ln_63, ln_64, ln_65, ln_66, ln_67, ln_68, ln_69, ln_70, ln_71, ln_72, ln_73, ln_74, ln_75, ln_76, ln_77, ln_78, ln_79, ln_80, ln_81, ln_82, ln_83, va_rf_some, push_s, push_n, nb0, nb1, nbb, Nat.reduceLT, sdS_30, hixc, hclc, sdS_78, e30, e56, hup, nI_1, wend, decide_false, decide_true, Bool.not_false, Bool.or_self, Bool.and_false, Bool.false_eq_true]
      have fin : ∀ v, v = wnm J n tc k → tEv E 139 91 [.ref 56, .int (nI (k + sln n tc (n + 1) k)), .int 1, .long (pkv tc k (sln n tc (n + 1) k)), tm_dum, .int (nI k), .int v] [] (mS (sdS I c f) J R) Q = Q (some (b2i (if okw J n tc k = true then rwd J n tc fu (wend n tc k + 1) (c + 1) (upd f c (wnm J n tc k)) else (false, c + 1, upd f c (wnm J n tc k))).1)) (mS (sdS I (if okw J n tc k = true then rwd J n tc fu (wend n tc k + 1) (c + 1) (upd f c (wnm J n tc k)) else (false, c + 1, upd f c (wnm J n tc k))).2.1 (if okw J n tc k = true then rwd J n tc fu (wend n tc k + 1) (c + 1) (upd f c (wnm J n tc k)) else (false, c + 1, upd f c (wnm J n tc k))).2.2) J R) := by
        intro v hv
        rw [tail v hv]
        by_cases ok : okw J n tc k = true
        · have hp := okw_pos hJ ok
          rw [if_pos ok, if_pos ok]
          exact m_readsWords_loop hR hT hJ fu (wend n tc k + 1) (c + 1) _ _ _ _ _ (by omega) (by unfold wend; omega) (by omega)
        · rw [if_neg ok, if_neg ok]
          simp only [e_139_9, e_139_10, e_139_150, e_139_151, rf_56_0 hR, rf_56_4 hR, rf_56_5 hR, rf_56_6 hR, rf_56_7 hR, rf_56_8 hR, rf_56_9 hR, rf_56_10 hR, rf_56_11 hR, rf_56_12 hR, rf_56_14 hR, rf_56_15 hR, rf_56_19 hR, rf_56_20 hR, rf_56_21 hR, rf_56_22 hR, rf_56_23 hR, rf_56_24 hR, rf_56_25 hR, rf_56_26 hR, rf_56_27 hR, rf_56_29 hR, rf_56_32 hR, rf_56_33 hR, rf_56_34 hR, rf_56_37 hR, rf_56_38 hR, kn_56, kn_57, kn_58, kn_59, kn_60, kn_61, kn_62, kn_63, kn_64, kn_65, kn_66, kn_67, kn_68, kn_69, kn_70, kn_71, kn_72, kn_73, kn_74, kn_75, kn_76, kn_77, kn_78, kn_79, kn_80, kn_81, kn_82, kn_83, ln_57, ln_58, ln_59, ln_60, ln_61, ln_62, ln_63, ln_64, ln_65, ln_66, ln_67, ln_68, ln_69, ln_70, ln_71, ln_72, ln_73, ln_74, ln_75, ln_76, ln_77, ln_78, ln_79, ln_80, ln_81, ln_82, ln_83, va_rf_some, push_s, push_n, nb0, nb1, nbb, Nat.reduceLT, if_true]
          rfl
      by_cases c3 : 6 < sln n tc (n + 1) k
      · rw [if_pos c3]
        exact fin (-4) (if_pos c3).symm
      · rw [if_neg c3]
        exact fin _ (if_neg c3).symm
    · have c2 : n < k := by omega
      rw [if_neg c1]
      simp only [e_139_9, e_139_10, e_139_13, e_139_14, e_139_15, e_139_18, e_139_150, e_139_151, rf_56_0 hR, rf_56_4 hR, rf_56_5 hR, rf_56_6 hR, rf_56_7 hR, rf_56_8 hR, rf_56_9 hR, rf_56_10 hR, rf_56_11 hR, rf_56_12 hR, rf_56_14 hR, rf_56_15 hR, rf_56_19 hR, rf_56_20 hR, rf_56_21 hR, rf_56_22 hR, rf_56_23 hR, rf_56_24 hR, rf_56_25 hR, rf_56_26 hR, rf_56_27 hR, rf_56_29 hR, rf_56_32 hR, rf_56_33 hR, rf_56_34 hR, rf_56_37 hR, rf_56_38 hR, kn_56, kn_57, kn_58, kn_59, kn_60, kn_61, kn_62, kn_63, kn_64, kn_65, kn_66, kn_67, kn_68, kn_69, kn_70, kn_71, kn_72, kn_73, kn_74, kn_75, kn_76, kn_77, kn_78, kn_79, kn_80, kn_81, kn_82, kn_83, ln_57, ln_58, ln_59, ln_60, ln_61, ln_62, ln_63, ln_64, ln_65, ln_66, ln_67, ln_68, ln_69, ln_70, ln_71, ln_72, ln_73, ln_74, ln_75, ln_76, ln_77, ln_78, ln_79, ln_80, ln_81, ln_82, ln_83, va_rf_some, push_s, push_n, nb0, nb1, nbb, Nat.reduceLT, h10, if_false, sdS_13, hT.1, hgt, c2, if_true]
      rfl
end WD2
