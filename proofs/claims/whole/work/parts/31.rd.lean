/-! ===== the model: the text, and the letters of a house ===== -/
def TX (I : Nat → Nat → Int32) (n : Nat) (tc : Nat → Nat) : Prop := I 56 13 = nI n ∧ n ≤ 240 ∧ ∀ p, p < n → I 66 p = nI (tc p) ∧ 32 ≤ tc p ∧ tc p ≤ 126
/-- the letter at p; 0 at the end -/
def cc (n : Nat) (tc : Nat → Nat) (p : Nat) : Nat := if p < n then tc p else 0
def hr (I : Nat → Nat → Int32) (p : Nat) : Nat → Nat → Int32 := va_up I 56 (upd (I 56) 16 (nI p))
theorem hr_f (I : Nat → Nat → Int32) (p k : Nat) (h : k ≠ 16) : hr I p 56 k = I 56 k := by
  unfold hr
  rw [vu, if_pos rfl, ud, if_neg h]
theorem hr_16 (I : Nat → Nat → Int32) (p : Nat) : hr I p 56 16 = nI p := Eq.trans rfl rfl
theorem hr_c (I : Nat → Nat → Int32) (p c : Nat) (h : c ≠ 56) : hr I p c = I c := by
  unfold hr
  rw [vu, if_neg h]
theorem hr_set (I : Nat → Nat → Int32) (p q : Nat) : va_up (hr I p) 56 (upd (hr I p 56) 16 (nI q)) = hr I q := by
  unfold hr
  rw [vu_vu, vu_eq, upd_upd]
theorem hr_self {I : Nat → Nat → Int32} {p : Nat} (h : I 56 16 = nI p) : hr I p = I := by
  unfold hr
  rw [← h, upd_self, vu_self]
theorem TX_hr {I : Nat → Nat → Int32} {n p : Nat} {tc : Nat → Nat} (h : TX I n tc) : TX (hr I p) n tc := h
theorem cc_lt {I : Nat → Nat → Int32} {n p : Nat} {tc : Nat → Nat} (h : TX I n tc) : cc n tc p < 127 := by
  unfold cc
  split
  · have := (h.2.2 p (by assumption)).2.2
    omega
  · omega
theorem hr_up (I : Nat → Nat → Int32) (p c : Nat) (h : c ≠ 56) (f : Nat → Int32) : va_up (hr I p) c f = hr (va_up I c f) p := by
  unfold hr
  rw [vu_comm I (Ne.symm h), vu, if_neg (Ne.symm h)]
theorem hr_set2 (I : Nat → Nat → Int32) (p k : Nat) (h : k ≠ 16) (v : Int32) : va_up (hr I p) 56 (upd (hr I p 56) k v) = hr (va_up I 56 (upd (I 56) k v)) p := by
  unfold hr
  rw [vu_vu, vu_vu, vu_eq, vu_eq]
  congr 1
  funext j
  simp only [ud]
  by_cases h1 : j = k
  · subst h1
    simp [h]
  · simp [h1]
theorem hr_c66 {I : Nat → Nat → Int32} {p : Nat} : hr I p 66 = I 66 := hr_c I p 66 (by decide)
theorem hr_c69 {I : Nat → Nat → Int32} {p : Nat} : hr I p 69 = I 69 := hr_c I p 69 (by decide)
theorem hr_c70 {I : Nat → Nat → Int32} {p : Nat} : hr I p 70 = I 70 := hr_c I p 70 (by decide)
theorem hr_c71 {I : Nat → Nat → Int32} {p : Nat} : hr I p 71 = I 71 := hr_c I p 71 (by decide)
theorem hr_c72 {I : Nat → Nat → Int32} {p : Nat} : hr I p 72 = I 72 := hr_c I p 72 (by decide)
theorem hr_c73 {I : Nat → Nat → Int32} {p : Nat} : hr I p 73 = I 73 := hr_c I p 73 (by decide)
theorem hr_c74 {I : Nat → Nat → Int32} {p : Nat} : hr I p 74 = I 74 := hr_c I p 74 (by decide)
theorem hr_c75 {I : Nat → Nat → Int32} {p : Nat} : hr I p 75 = I 75 := hr_c I p 75 (by decide)
theorem hr_c76 {I : Nat → Nat → Int32} {p : Nat} : hr I p 76 = I 76 := hr_c I p 76 (by decide)
theorem hr_c77 {I : Nat → Nat → Int32} {p : Nat} : hr I p 77 = I 77 := hr_c I p 77 (by decide)
theorem hr_u69 {I : Nat → Nat → Int32} {p : Nat} {f : Nat → Int32} : va_up (hr I p) 69 f = hr (va_up I 69 f) p := hr_up I p 69 (by decide) f
theorem hr_u70 {I : Nat → Nat → Int32} {p : Nat} {f : Nat → Int32} : va_up (hr I p) 70 f = hr (va_up I 70 f) p := hr_up I p 70 (by decide) f
theorem hr_u71 {I : Nat → Nat → Int32} {p : Nat} {f : Nat → Int32} : va_up (hr I p) 71 f = hr (va_up I 71 f) p := hr_up I p 71 (by decide) f
theorem hr_u72 {I : Nat → Nat → Int32} {p : Nat} {f : Nat → Int32} : va_up (hr I p) 72 f = hr (va_up I 72 f) p := hr_up I p 72 (by decide) f
theorem hr_u73 {I : Nat → Nat → Int32} {p : Nat} {f : Nat → Int32} : va_up (hr I p) 73 f = hr (va_up I 73 f) p := hr_up I p 73 (by decide) f
theorem hr_u74 {I : Nat → Nat → Int32} {p : Nat} {f : Nat → Int32} : va_up (hr I p) 74 f = hr (va_up I 74 f) p := hr_up I p 74 (by decide) f
theorem hr_u75 {I : Nat → Nat → Int32} {p : Nat} {f : Nat → Int32} : va_up (hr I p) 75 f = hr (va_up I 75 f) p := hr_up I p 75 (by decide) f
theorem hr_u76 {I : Nat → Nat → Int32} {p : Nat} {f : Nat → Int32} : va_up (hr I p) 76 f = hr (va_up I 76 f) p := hr_up I p 76 (by decide) f
theorem hr_u77 {I : Nat → Nat → Int32} {p : Nat} {f : Nat → Int32} : va_up (hr I p) 77 f = hr (va_up I 77 f) p := hr_up I p 77 (by decide) f
theorem hr_k13 {I : Nat → Nat → Int32} {p : Nat} : hr I p 56 13 = I 56 13 := hr_f I p 13 (by decide)
theorem hr_k17 {I : Nat → Nat → Int32} {p : Nat} : hr I p 56 17 = I 56 17 := hr_f I p 17 (by decide)
theorem hr_k18 {I : Nat → Nat → Int32} {p : Nat} : hr I p 56 18 = I 56 18 := hr_f I p 18 (by decide)
theorem hr_k28 {I : Nat → Nat → Int32} {p : Nat} : hr I p 56 28 = I 56 28 := hr_f I p 28 (by decide)
theorem hr_s17 {I : Nat → Nat → Int32} {p : Nat} {v : Int32} : va_up (hr I p) 56 (upd (hr I p 56) 17 v) = hr (va_up I 56 (upd (I 56) 17 v)) p := hr_set2 I p 17 (by decide) v
theorem hr_s18 {I : Nat → Nat → Int32} {p : Nat} {v : Int32} : va_up (hr I p) 56 (upd (hr I p 56) 18 v) = hr (va_up I 56 (upd (I 56) 18 v)) p := hr_set2 I p 18 (by decide) v
theorem hr_s28 {I : Nat → Nat → Int32} {p : Nat} {v : Int32} : va_up (hr I p) 56 (upd (hr I p 56) 28 v) = hr (va_up I 56 (upd (I 56) 28 v)) p := hr_set2 I p 28 (by decide) v
section RD
variable {E : tm_Env} {Q : Option Int32 → tm_St → Prop} {I : Nat → Nat → Int32} {J : Nat → Nat → Int64} {R : Nat → Nat → Option Nat} {h d : Nat} {nr nt n p : Nat} {tc : Nat → Nat}
theorem m_wipe (hR : tRef h d R) : tEv E 63 0 [.ref 56, tm_dum] [] (mS I J R) Q = Q (some (I 56 13)) (mS (va_up I 56 (upd (I 56) 13 0)) J R) := by
  simp only [e_63_0, e_63_1, e_63_4, e_63_5, e_63_6, e_63_7, e_63_10, e_63_11, rf_56_0 hR, rf_56_4 hR, rf_56_5 hR, rf_56_6 hR, rf_56_7 hR, rf_56_8 hR, rf_56_9 hR, rf_56_10 hR, rf_56_11 hR, rf_56_12 hR, rf_56_14 hR, rf_56_15 hR, rf_56_19 hR, rf_56_20 hR, rf_56_21 hR, rf_56_22 hR, rf_56_23 hR, rf_56_24 hR, rf_56_25 hR, rf_56_26 hR, rf_56_27 hR, rf_56_29 hR, rf_56_32 hR, rf_56_33 hR, rf_56_34 hR, rf_56_37 hR, rf_56_38 hR, kn_56, kn_57, kn_58, kn_59, kn_60, kn_61, kn_62, kn_63, kn_64, kn_65, kn_66, kn_67, kn_68, kn_69, kn_70, kn_71, kn_72, kn_73, kn_74, kn_75, kn_76, kn_77, kn_78, kn_79, kn_80, kn_81, kn_82, kn_83, ln_57, ln_58, ln_59, ln_60, ln_61, ln_62, ln_63, ln_64, ln_65, ln_66, ln_67, ln_68, ln_69, ln_70, ln_71, ln_72, ln_73, ln_74, ln_75, ln_76, ln_77, ln_78, ln_79, ln_80, ln_81, ln_82, ln_83, va_rf_some, push_s, push_n, nb0, nb1, nbb, Nat.reduceLT]
theorem m_write_0 (hR : tRef h d R) {x : Int32} (hx : decide ((32 : Int32) ≤ x ∧ x ≤ 126) = false) : tEv E 48 0 [.ref 56, .int x] [] (mS I J R) Q = Q (some (-1)) (mS I J R) := by
  simp only [e_48_0, e_48_1, e_48_2, e_48_5, e_48_8, e_48_11, e_48_14, e_48_15, e_48_16, e_48_17, e_48_20, e_48_23, e_48_26, e_48_28, e_48_29, e_48_30, e_48_33, e_48_34, e_48_37, e_48_38, e_48_39, e_48_40, e_48_41, e_48_44, e_48_45, e_48_46, e_48_49, e_48_50, e_48_53, rf_56_0 hR, rf_56_4 hR, rf_56_5 hR, rf_56_6 hR, rf_56_7 hR, rf_56_8 hR, rf_56_9 hR, rf_56_10 hR, rf_56_11 hR, rf_56_12 hR, rf_56_14 hR, rf_56_15 hR, rf_56_19 hR, rf_56_20 hR, rf_56_21 hR, rf_56_22 hR, rf_56_23 hR, rf_56_24 hR, rf_56_25 hR, rf_56_26 hR, rf_56_27 hR, rf_56_29 hR, rf_56_32 hR, rf_56_33 hR, rf_56_34 hR, rf_56_37 hR, rf_56_38 hR, kn_56, kn_57, kn_58, kn_59, kn_60, kn_61, kn_62, kn_63, kn_64, kn_65, kn_66, kn_67, kn_68, kn_69, kn_70, kn_71, kn_72, kn_73, kn_74, kn_75, kn_76, kn_77, kn_78, kn_79, kn_80, kn_81, kn_82, kn_83, ln_57, ln_58, ln_59, ln_60, ln_61, ln_62, ln_63, ln_64, ln_65, ln_66, ln_67, ln_68, ln_69, ln_70, ln_71, ln_72, ln_73, ln_74, ln_75, ln_76, ln_77, ln_78, ln_79, ln_80, ln_81, ln_82, ln_83, va_rf_some, push_s, push_n, nb0, nb1, nbb, Nat.reduceLT, m_in_32_126, hx, b2i_0, if_true]
theorem m_write_1 (hR : tRef h d R) {x : Int32} (hx : decide ((32 : Int32) ≤ x ∧ x ≤ 126) = true) (h1 : I 56 13 = nI 240) : tEv E 48 0 [.ref 56, .int x] [] (mS I J R) Q = Q (some (-3)) (mS I J R) := by
  have e : I 56 13 = 240 := h1
  simp only [e_48_0, e_48_1, e_48_2, e_48_5, e_48_8, e_48_11, e_48_14, e_48_15, e_48_16, e_48_17, e_48_20, e_48_23, e_48_26, e_48_28, e_48_29, e_48_30, e_48_33, e_48_34, e_48_37, e_48_38, e_48_39, e_48_40, e_48_41, e_48_44, e_48_45, e_48_46, e_48_49, e_48_50, e_48_53, rf_56_0 hR, rf_56_4 hR, rf_56_5 hR, rf_56_6 hR, rf_56_7 hR, rf_56_8 hR, rf_56_9 hR, rf_56_10 hR, rf_56_11 hR, rf_56_12 hR, rf_56_14 hR, rf_56_15 hR, rf_56_19 hR, rf_56_20 hR, rf_56_21 hR, rf_56_22 hR, rf_56_23 hR, rf_56_24 hR, rf_56_25 hR, rf_56_26 hR, rf_56_27 hR, rf_56_29 hR, rf_56_32 hR, rf_56_33 hR, rf_56_34 hR, rf_56_37 hR, rf_56_38 hR, kn_56, kn_57, kn_58, kn_59, kn_60, kn_61, kn_62, kn_63, kn_64, kn_65, kn_66, kn_67, kn_68, kn_69, kn_70, kn_71, kn_72, kn_73, kn_74, kn_75, kn_76, kn_77, kn_78, kn_79, kn_80, kn_81, kn_82, kn_83, ln_57, ln_58, ln_59, ln_60, ln_61, ln_62, ln_63, ln_64, ln_65, ln_66, ln_67, ln_68, ln_69, ln_70, ln_71, ln_72, ln_73, ln_74, ln_75, ln_76, ln_77, ln_78, ln_79, ln_80, ln_81, ln_82, ln_83, va_rf_some, push_s, push_n, nb0, nb1, nbb, Nat.reduceLT, m_in_32_126, hx, b2i_0, Bool.true_eq_false, if_false, e, if_true]
theorem m_write_2 (hR : tRef h d R) {x : Int32} (hx : decide ((32 : Int32) ≤ x ∧ x ≤ 126) = true) {n : Nat} (hn : n < 240) (h1 : I 56 13 = nI n) : tEv E 48 0 [.ref 56, .int x] [] (mS I J R) Q = Q (some (nI (n + 1))) (mS (va_up (va_up I 66 (upd (I 66) n x)) 56 (upd (I 56) 13 (nI (n + 1)))) J R) := by
  have hix := inb_nI (j := n) (n := 240) (by omega) (by decide)
  have hcl := nI_cl (n := n) (by omega)
  have e : (nI n = 240) = False := eq_false (fun e => by
    have := (nI_eq (b := 240) (by omega) (by omega)).mp e
    omega)
  simp only [e_48_0, e_48_1, e_48_2, e_48_5, e_48_8, e_48_11, e_48_14, e_48_15, e_48_16, e_48_17, e_48_20, e_48_23, e_48_26, e_48_28, e_48_29, e_48_30, e_48_33, e_48_34, e_48_37, e_48_38, e_48_39, e_48_40, e_48_41, e_48_44, e_48_45, e_48_46, e_48_49, e_48_50, e_48_53, rf_56_0 hR, rf_56_4 hR, rf_56_5 hR, rf_56_6 hR, rf_56_7 hR, rf_56_8 hR, rf_56_9 hR, rf_56_10 hR, rf_56_11 hR, rf_56_12 hR, rf_56_14 hR, rf_56_15 hR, rf_56_19 hR, rf_56_20 hR, rf_56_21 hR, rf_56_22 hR, rf_56_23 hR, rf_56_24 hR, rf_56_25 hR, rf_56_26 hR, rf_56_27 hR, rf_56_29 hR, rf_56_32 hR, rf_56_33 hR, rf_56_34 hR, rf_56_37 hR, rf_56_38 hR, kn_56, kn_57, kn_58, kn_59, kn_60, kn_61, kn_62, kn_63, kn_64, kn_65, kn_66, kn_67, kn_68, kn_69, kn_70, kn_71, kn_72, kn_73, kn_74, kn_75, kn_76, kn_77, kn_78, kn_79, kn_80, kn_81, kn_82, kn_83, ln_57, ln_58, ln_59, ln_60, ln_61, ln_62, ln_63, ln_64, ln_65, ln_66, ln_67, ln_68, ln_69, ln_70, ln_71, ln_72, ln_73, ln_74, ln_75, ln_76, ln_77, ln_78, ln_79, ln_80, ln_81, ln_82, ln_83, va_rf_some, push_s, push_n, nb0, nb1, nbb, Nat.reduceLT, m_in_32_126, hx, b2i_0, Bool.true_eq_false, if_false, h1, e, hix, hcl, vu, ud, Nat.reduceEqDiff, reduceIte, nI_1]
theorem m_letterAt (hR : tRef h d R) (hT : TX I n tc) (hp : p < 1000) : tEv E 49 0 [.ref 56, .int (nI p)] [] (mS I J R) Q = Q (some (if p < n then nI (tc p) else -4)) (mS I J R) := by
  have hn := hT.2.1
  have hlt : (nI p < nI n) = (p < n) := propext (nI_ltI (by omega) (by omega))
  by_cases c : p < n
  · have hix := inb_nI (j := p) (n := 240) (by omega) (by decide)
    have hcl := nI_cl (n := p) (by omega)
    simp only [e_49_0, e_49_1, e_49_2, e_49_5, e_49_8, e_49_9, e_49_12, e_49_13, e_49_14, e_49_17, e_49_19, rf_56_0 hR, rf_56_4 hR, rf_56_5 hR, rf_56_6 hR, rf_56_7 hR, rf_56_8 hR, rf_56_9 hR, rf_56_10 hR, rf_56_11 hR, rf_56_12 hR, rf_56_14 hR, rf_56_15 hR, rf_56_19 hR, rf_56_20 hR, rf_56_21 hR, rf_56_22 hR, rf_56_23 hR, rf_56_24 hR, rf_56_25 hR, rf_56_26 hR, rf_56_27 hR, rf_56_29 hR, rf_56_32 hR, rf_56_33 hR, rf_56_34 hR, rf_56_37 hR, rf_56_38 hR, kn_56, kn_57, kn_58, kn_59, kn_60, kn_61, kn_62, kn_63, kn_64, kn_65, kn_66, kn_67, kn_68, kn_69, kn_70, kn_71, kn_72, kn_73, kn_74, kn_75, kn_76, kn_77, kn_78, kn_79, kn_80, kn_81, kn_82, kn_83, ln_57, ln_58, ln_59, ln_60, ln_61, ln_62, ln_63, ln_64, ln_65, ln_66, ln_67, ln_68, ln_69, ln_70, ln_71, ln_72, ln_73, ln_74, ln_75, ln_76, ln_77, ln_78, ln_79, ln_80, ln_81, ln_82, ln_83, va_rf_some, push_s, push_n, nb0, nb1, nbb, Nat.reduceLT, hT.1, hlt, c, if_true, hix, hcl, (hT.2.2 p c).1]
  · simp only [e_49_0, e_49_1, e_49_2, e_49_5, e_49_8, e_49_9, e_49_12, e_49_13, e_49_14, e_49_17, e_49_19, rf_56_0 hR, rf_56_4 hR, rf_56_5 hR, rf_56_6 hR, rf_56_7 hR, rf_56_8 hR, rf_56_9 hR, rf_56_10 hR, rf_56_11 hR, rf_56_12 hR, rf_56_14 hR, rf_56_15 hR, rf_56_19 hR, rf_56_20 hR, rf_56_21 hR, rf_56_22 hR, rf_56_23 hR, rf_56_24 hR, rf_56_25 hR, rf_56_26 hR, rf_56_27 hR, rf_56_29 hR, rf_56_32 hR, rf_56_33 hR, rf_56_34 hR, rf_56_37 hR, rf_56_38 hR, kn_56, kn_57, kn_58, kn_59, kn_60, kn_61, kn_62, kn_63, kn_64, kn_65, kn_66, kn_67, kn_68, kn_69, kn_70, kn_71, kn_72, kn_73, kn_74, kn_75, kn_76, kn_77, kn_78, kn_79, kn_80, kn_81, kn_82, kn_83, ln_57, ln_58, ln_59, ln_60, ln_61, ln_62, ln_63, ln_64, ln_65, ln_66, ln_67, ln_68, ln_69, ln_70, ln_71, ln_72, ln_73, ln_74, ln_75, ln_76, ln_77, ln_78, ln_79, ln_80, ln_81, ln_82, ln_83, va_rf_some, push_s, push_n, nb0, nb1, nbb, Nat.reduceLT, hT.1, hlt, c, if_false]
theorem m_next (hR : tRef h d R) (hT : TX I n tc) (hp : p < 1000) {lo hi : Nat} (h1 : 1 ≤ lo) (h2 : hi < 1000) (h3 : lo < 1000) : tEv E 50 0 [.ref 56, .int (nI lo), .int (nI hi), tm_dum] [] (mS (hr I p) J R) Q = if lo ≤ cc n tc p ∧ cc n tc p ≤ hi then Q (some (nI (cc n tc p - lo))) (mS (hr I (p + 1)) J R) else Q (some (-4)) (mS (hr I p) J R) := by
  have hl := fun {Q} => m_letterAt (E := E) (Q := Q) (J := J) hR (TX_hr (p := p) hT) hp
  have hs : va_up (hr I p) 56 (upd (hr I p 56) 16 (nI (p + 1))) = hr I (p + 1) := hr_set I p (p + 1)
  simp only [e_50_0, e_50_1, e_50_2, e_50_5, e_50_8, rf_56_0 hR, rf_56_4 hR, rf_56_5 hR, rf_56_6 hR, rf_56_7 hR, rf_56_8 hR, rf_56_9 hR, rf_56_10 hR, rf_56_11 hR, rf_56_12 hR, rf_56_14 hR, rf_56_15 hR, rf_56_19 hR, rf_56_20 hR, rf_56_21 hR, rf_56_22 hR, rf_56_23 hR, rf_56_24 hR, rf_56_25 hR, rf_56_26 hR, rf_56_27 hR, rf_56_29 hR, rf_56_32 hR, rf_56_33 hR, rf_56_34 hR, rf_56_37 hR, rf_56_38 hR, kn_56, kn_57, kn_58, kn_59, kn_60, kn_61, kn_62, kn_63, kn_64, kn_65, kn_66, kn_67, kn_68, kn_69, kn_70, kn_71, kn_72, kn_73, kn_74, kn_75, kn_76, kn_77, kn_78, kn_79, kn_80, kn_81, kn_82, kn_83, ln_57, ln_58, ln_59, ln_60, ln_61, ln_62, ln_63, ln_64, ln_65, ln_66, ln_67, ln_68, ln_69, ln_70, ln_71, ln_72, ln_73, ln_74, ln_75, ln_76, ln_77, ln_78, ln_79, ln_80, ln_81, ln_82, ln_83, va_rf_some, push_s, push_n, nb0, nb1, nbb, Nat.reduceLT, hr_16, hl]
  by_cases c : p < n
  · have ht := hT.2.2 p c
    have ecc : cc n tc p = tc p := if_pos c
    have hin : ∀ {S : tm_St} {Q}, tEv E 47 0 [.long (nI (tc p)).toInt64, tm_dum, .long (nI lo).toInt64, tm_dum, .long (nI hi).toInt64, tm_dum] [] S Q = Q (some (b2i (decide (lo ≤ tc p ∧ tc p ≤ hi)))) S := m_inn (by omega) (by omega) (by omega)
    simp only [c, if_true, e_50_9, e_50_10, e_50_11, e_50_12, e_50_13, e_50_14, e_50_15, e_50_18, e_50_21, e_50_23, e_50_24, e_50_25, e_50_26, e_50_29, e_50_30, e_50_31, e_50_34, e_50_35, e_50_36, e_50_37, rf_56_0 hR, rf_56_4 hR, rf_56_5 hR, rf_56_6 hR, rf_56_7 hR, rf_56_8 hR, rf_56_9 hR, rf_56_10 hR, rf_56_11 hR, rf_56_12 hR, rf_56_14 hR, rf_56_15 hR, rf_56_19 hR, rf_56_20 hR, rf_56_21 hR, rf_56_22 hR, rf_56_23 hR, rf_56_24 hR, rf_56_25 hR, rf_56_26 hR, rf_56_27 hR, rf_56_29 hR, rf_56_32 hR, rf_56_33 hR, rf_56_34 hR, rf_56_37 hR, rf_56_38 hR, kn_56, kn_57, kn_58, kn_59, kn_60, kn_61, kn_62, kn_63, kn_64, kn_65, kn_66, kn_67, kn_68, kn_69, kn_70, kn_71, kn_72, kn_73, kn_74, kn_75, kn_76, kn_77, kn_78, kn_79, kn_80, kn_81, kn_82, kn_83, ln_57, ln_58, ln_59, ln_60, ln_61, ln_62, ln_63, ln_64, ln_65, ln_66, ln_67, ln_68, ln_69, ln_70, ln_71, ln_72, ln_73, ln_74, ln_75, ln_76, ln_77, ln_78, ln_79, ln_80, ln_81, ln_82, ln_83, va_rf_some, push_s, push_n, nb0, nb1, nbb, Nat.reduceLT, hin, b2i_0, ecc, hr_16, nI_1, hs]
    by_cases c2 : lo ≤ tc p ∧ tc p ≤ hi
    · have e5 : nI (tc p) - nI lo = nI (tc p - lo) := pk_sub c2.1
      rw [decide_eq_true c2, if_neg (by decide), if_pos c2, e5]
    · rw [decide_eq_false c2, if_pos rfl, if_neg c2]
  · have ecc : cc n tc p = 0 := if_neg c
    have hin : ∀ {S : tm_St} {Q}, tEv E 47 0 [.long (-4 : Int32).toInt64, tm_dum, .long (nI lo).toInt64, tm_dum, .long (nI hi).toInt64, tm_dum] [] S Q = Q (some (b2i (decide (nI lo ≤ -4 ∧ (-4 : Int32) ≤ nI hi)))) S := m_inx
    have hf : decide (nI lo ≤ -4 ∧ (-4 : Int32) ≤ nI hi) = false := decide_eq_false (fun e => by
      have e1 := Int32.le_iff_toInt_le.mp e.1
      rw [nI_toInt (by omega)] at e1
      have : (-4 : Int32).toInt = -4 := by decide
      omega)
    simp only [c, if_false, e_50_9, e_50_10, e_50_11, e_50_12, e_50_13, e_50_14, e_50_15, e_50_18, e_50_21, e_50_23, e_50_24, e_50_25, e_50_26, e_50_29, e_50_30, e_50_31, e_50_34, e_50_35, e_50_36, e_50_37, rf_56_0 hR, rf_56_4 hR, rf_56_5 hR, rf_56_6 hR, rf_56_7 hR, rf_56_8 hR, rf_56_9 hR, rf_56_10 hR, rf_56_11 hR, rf_56_12 hR, rf_56_14 hR, rf_56_15 hR, rf_56_19 hR, rf_56_20 hR, rf_56_21 hR, rf_56_22 hR, rf_56_23 hR, rf_56_24 hR, rf_56_25 hR, rf_56_26 hR, rf_56_27 hR, rf_56_29 hR, rf_56_32 hR, rf_56_33 hR, rf_56_34 hR, rf_56_37 hR, rf_56_38 hR, kn_56, kn_57, kn_58, kn_59, kn_60, kn_61, kn_62, kn_63, kn_64, kn_65, kn_66, kn_67, kn_68, kn_69, kn_70, kn_71, kn_72, kn_73, kn_74, kn_75, kn_76, kn_77, kn_78, kn_79, kn_80, kn_81, kn_82, kn_83, ln_57, ln_58, ln_59, ln_60, ln_61, ln_62, ln_63, ln_64, ln_65, ln_66, ln_67, ln_68, ln_69, ln_70, ln_71, ln_72, ln_73, ln_74, ln_75, ln_76, ln_77, ln_78, ln_79, ln_80, ln_81, ln_82, ln_83, va_rf_some, push_s, push_n, nb0, nb1, nbb, Nat.reduceLT, hin, hf, b2i_0, ecc, if_true]
    rw [if_neg (by omega)]
/-- behind the letter x, if it is there -/
def op (n : Nat) (tc : Nat → Nat) (x p : Nat) : Nat := if cc n tc p = x then p + 1 else p
def dg (n : Nat) (tc : Nat → Nat) (p : Nat) : Bool := decide (48 ≤ cc n tc p ∧ cc n tc p ≤ 57)
def dv (n : Nat) (tc : Nat → Nat) (p : Nat) : Nat := cc n tc p - 48
theorem m_isNext (hR : tRef h d R) (hT : TX I n tc) (hp : p < 1000) {x : Nat} (h1 : 1 ≤ x) (h2 : x < 1000) : tEv E 52 0 [.ref 56, .int (nI x)] [] (mS (hr I p) J R) Q = Q (some (b2i (decide (cc n tc p = x)))) (mS (hr I (op n tc x p)) J R) := by
  simp only [e_52_0, e_52_1, e_52_2, e_52_3, rf_56_0 hR, rf_56_4 hR, rf_56_5 hR, rf_56_6 hR, rf_56_7 hR, rf_56_8 hR, rf_56_9 hR, rf_56_10 hR, rf_56_11 hR, rf_56_12 hR, rf_56_14 hR, rf_56_15 hR, rf_56_19 hR, rf_56_20 hR, rf_56_21 hR, rf_56_22 hR, rf_56_23 hR, rf_56_24 hR, rf_56_25 hR, rf_56_26 hR, rf_56_27 hR, rf_56_29 hR, rf_56_32 hR, rf_56_33 hR, rf_56_34 hR, rf_56_37 hR, rf_56_38 hR, kn_56, kn_57, kn_58, kn_59, kn_60, kn_61, kn_62, kn_63, kn_64, kn_65, kn_66, kn_67, kn_68, kn_69, kn_70, kn_71, kn_72, kn_73, kn_74, kn_75, kn_76, kn_77, kn_78, kn_79, kn_80, kn_81, kn_82, kn_83, ln_57, ln_58, ln_59, ln_60, ln_61, ln_62, ln_63, ln_64, ln_65, ln_66, ln_67, ln_68, ln_69, ln_70, ln_71, ln_72, ln_73, ln_74, ln_75, ln_76, ln_77, ln_78, ln_79, ln_80, ln_81, ln_82, ln_83, va_rf_some, push_s, push_n, nb0, nb1, nbb, Nat.reduceLT, m_next hR hT hp h1 h2 h2]
  unfold op
  by_cases c : cc n tc p = x
  · rw [if_pos (by omega), if_pos c, show cc n tc p - x = 0 by omega, decide_eq_true c]
    simp only [e_52_6, e_52_9, e_52_10, e_52_13, e_52_14, rf_56_0 hR, rf_56_4 hR, rf_56_5 hR, rf_56_6 hR, rf_56_7 hR, rf_56_8 hR, rf_56_9 hR, rf_56_10 hR, rf_56_11 hR, rf_56_12 hR, rf_56_14 hR, rf_56_15 hR, rf_56_19 hR, rf_56_20 hR, rf_56_21 hR, rf_56_22 hR, rf_56_23 hR, rf_56_24 hR, rf_56_25 hR, rf_56_26 hR, rf_56_27 hR, rf_56_29 hR, rf_56_32 hR, rf_56_33 hR, rf_56_34 hR, rf_56_37 hR, rf_56_38 hR, kn_56, kn_57, kn_58, kn_59, kn_60, kn_61, kn_62, kn_63, kn_64, kn_65, kn_66, kn_67, kn_68, kn_69, kn_70, kn_71, kn_72, kn_73, kn_74, kn_75, kn_76, kn_77, kn_78, kn_79, kn_80, kn_81, kn_82, kn_83, ln_57, ln_58, ln_59, ln_60, ln_61, ln_62, ln_63, ln_64, ln_65, ln_66, ln_67, ln_68, ln_69, ln_70, ln_71, ln_72, ln_73, ln_74, ln_75, ln_76, ln_77, ln_78, ln_79, ln_80, ln_81, ln_82, ln_83, va_rf_some, push_s, push_n, nb0, nb1, nbb, Nat.reduceLT, show nI 0 = (0 : Int32) from rfl, if_true]
    rfl
  · rw [if_neg (by omega), if_neg c, decide_eq_false c]
    simp only [e_52_6, e_52_9, e_52_10, e_52_13, e_52_14, rf_56_0 hR, rf_56_4 hR, rf_56_5 hR, rf_56_6 hR, rf_56_7 hR, rf_56_8 hR, rf_56_9 hR, rf_56_10 hR, rf_56_11 hR, rf_56_12 hR, rf_56_14 hR, rf_56_15 hR, rf_56_19 hR, rf_56_20 hR, rf_56_21 hR, rf_56_22 hR, rf_56_23 hR, rf_56_24 hR, rf_56_25 hR, rf_56_26 hR, rf_56_27 hR, rf_56_29 hR, rf_56_32 hR, rf_56_33 hR, rf_56_34 hR, rf_56_37 hR, rf_56_38 hR, kn_56, kn_57, kn_58, kn_59, kn_60, kn_61, kn_62, kn_63, kn_64, kn_65, kn_66, kn_67, kn_68, kn_69, kn_70, kn_71, kn_72, kn_73, kn_74, kn_75, kn_76, kn_77, kn_78, kn_79, kn_80, kn_81, kn_82, kn_83, ln_57, ln_58, ln_59, ln_60, ln_61, ln_62, ln_63, ln_64, ln_65, ln_66, ln_67, ln_68, ln_69, ln_70, ln_71, ln_72, ln_73, ln_74, ln_75, ln_76, ln_77, ln_78, ln_79, ln_80, ln_81, ln_82, ln_83, va_rf_some, push_s, push_n, nb0, nb1, nbb, Nat.reduceLT, show ((-4 : Int32) = 0) = False from eq_false (by decide), if_false]
    rfl
theorem m_dig (hR : tRef h d R) (hT : TX I n tc) (hp : p < 1000) : tEv E 50 0 [.ref 56, .int 48, .int 57, tm_dum] [] (mS (hr I p) J R) Q = if dg n tc p = true then Q (some (nI (dv n tc p))) (mS (hr I (p + 1)) J R) else Q (some (-4)) (mS (hr I p) J R) := by
  have := fun {Q} => m_next (E := E) (Q := Q) (J := J) hR hT hp (lo := 48) (hi := 57) (by decide) (by decide) (by decide)
  rw [show nI 48 = 48 from rfl, show nI 57 = 57 from rfl] at this
  rw [this]
  unfold dg dv
  simp only [decide_eq_true_eq]
def rmOk (n : Nat) (tc : Nat → Nat) (nr p : Nat) : Bool := dg n tc p && decide (dv n tc p < nr)
def rmP (n : Nat) (tc : Nat → Nat) (p : Nat) : Nat := if dg n tc p = true then p + 1 else p
theorem dv_lt (h : dg n tc p = true) : dv n tc p < 10 := by
  have := of_decide_eq_true h
  unfold dv
  omega
theorem m_roomNext (hR : tRef h d R) (hT : TX I n tc) (hp : p < 1000) (h1 : I 56 17 = nI nr) (hn : nr < 1000) : tEv E 53 0 [.ref 56, tm_dum] [] (mS (hr I p) J R) Q = Q (some (if rmOk n tc nr p = true then nI (dv n tc p) else -4)) (mS (hr I (rmP n tc p)) J R) := by
  simp only [e_53_0, e_53_1, e_53_3, e_53_5, rf_56_0 hR, rf_56_4 hR, rf_56_5 hR, rf_56_6 hR, rf_56_7 hR, rf_56_8 hR, rf_56_9 hR, rf_56_10 hR, rf_56_11 hR, rf_56_12 hR, rf_56_14 hR, rf_56_15 hR, rf_56_19 hR, rf_56_20 hR, rf_56_21 hR, rf_56_22 hR, rf_56_23 hR, rf_56_24 hR, rf_56_25 hR, rf_56_26 hR, rf_56_27 hR, rf_56_29 hR, rf_56_32 hR, rf_56_33 hR, rf_56_34 hR, rf_56_37 hR, rf_56_38 hR, kn_56, kn_57, kn_58, kn_59, kn_60, kn_61, kn_62, kn_63, kn_64, kn_65, kn_66, kn_67, kn_68, kn_69, kn_70, kn_71, kn_72, kn_73, kn_74, kn_75, kn_76, kn_77, kn_78, kn_79, kn_80, kn_81, kn_82, kn_83, ln_57, ln_58, ln_59, ln_60, ln_61, ln_62, ln_63, ln_64, ln_65, ln_66, ln_67, ln_68, ln_69, ln_70, ln_71, ln_72, ln_73, ln_74, ln_75, ln_76, ln_77, ln_78, ln_79, ln_80, ln_81, ln_82, ln_83, va_rf_some, push_s, push_n, nb0, nb1, nbb, Nat.reduceLT, m_dig hR hT hp]
  unfold rmOk rmP
  cases c : dg n tc p with
  | false =>
    simp only [Bool.false_eq_true, if_false, e_53_8, e_53_9, e_53_10, e_53_12, e_53_15, e_53_16, e_53_17, e_53_20, e_53_23, e_53_25, e_53_28, e_53_29, rf_56_0 hR, rf_56_4 hR, rf_56_5 hR, rf_56_6 hR, rf_56_7 hR, rf_56_8 hR, rf_56_9 hR, rf_56_10 hR, rf_56_11 hR, rf_56_12 hR, rf_56_14 hR, rf_56_15 hR, rf_56_19 hR, rf_56_20 hR, rf_56_21 hR, rf_56_22 hR, rf_56_23 hR, rf_56_24 hR, rf_56_25 hR, rf_56_26 hR, rf_56_27 hR, rf_56_29 hR, rf_56_32 hR, rf_56_33 hR, rf_56_34 hR, rf_56_37 hR, rf_56_38 hR, kn_56, kn_57, kn_58, kn_59, kn_60, kn_61, kn_62, kn_63, kn_64, kn_65, kn_66, kn_67, kn_68, kn_69, kn_70, kn_71, kn_72, kn_73, kn_74, kn_75, kn_76, kn_77, kn_78, kn_79, kn_80, kn_81, kn_82, kn_83, ln_57, ln_58, ln_59, ln_60, ln_61, ln_62, ln_63, ln_64, ln_65, ln_66, ln_67, ln_68, ln_69, ln_70, ln_71, ln_72, ln_73, ln_74, ln_75, ln_76, ln_77, ln_78, ln_79, ln_80, ln_81, ln_82, ln_83, va_rf_some, push_s, push_n, nb0, nb1, nbb, Nat.reduceLT, if_true, Bool.false_and]
  | true =>
    have hd := dv_lt c
    have e4 : (nI (dv n tc p) = -4) = False := eq_false (nI_n4 (by omega))
    have hlt : (nI (dv n tc p) < nI nr) = (dv n tc p < nr) := propext (nI_ltI (by omega) (by omega))
    simp only [if_true, e_53_8, e_53_9, e_53_10, e_53_12, e_53_15, e_53_16, e_53_17, e_53_20, e_53_23, e_53_25, e_53_28, e_53_29, rf_56_0 hR, rf_56_4 hR, rf_56_5 hR, rf_56_6 hR, rf_56_7 hR, rf_56_8 hR, rf_56_9 hR, rf_56_10 hR, rf_56_11 hR, rf_56_12 hR, rf_56_14 hR, rf_56_15 hR, rf_56_19 hR, rf_56_20 hR, rf_56_21 hR, rf_56_22 hR, rf_56_23 hR, rf_56_24 hR, rf_56_25 hR, rf_56_26 hR, rf_56_27 hR, rf_56_29 hR, rf_56_32 hR, rf_56_33 hR, rf_56_34 hR, rf_56_37 hR, rf_56_38 hR, kn_56, kn_57, kn_58, kn_59, kn_60, kn_61, kn_62, kn_63, kn_64, kn_65, kn_66, kn_67, kn_68, kn_69, kn_70, kn_71, kn_72, kn_73, kn_74, kn_75, kn_76, kn_77, kn_78, kn_79, kn_80, kn_81, kn_82, kn_83, ln_57, ln_58, ln_59, ln_60, ln_61, ln_62, ln_63, ln_64, ln_65, ln_66, ln_67, ln_68, ln_69, ln_70, ln_71, ln_72, ln_73, ln_74, ln_75, ln_76, ln_77, ln_78, ln_79, ln_80, ln_81, ln_82, ln_83, va_rf_some, push_s, push_n, nb0, nb1, nbb, Nat.reduceLT, e4, if_false, hr_k17, h1, hlt, Bool.true_and, decide_eq_true_eq]
    by_cases c2 : dv n tc p < nr <;> simp [c2]
def thV (n : Nat) (tc : Nat → Nat) (p : Nat) : Nat := 10 * dv n tc p + dv n tc (p + 1)
def thOk (n : Nat) (tc : Nat → Nat) (nt p : Nat) : Bool := dg n tc p && dg n tc (p + 1) && decide (thV n tc p < nt)
def thP (n : Nat) (tc : Nat → Nat) (p : Nat) : Nat := if dg n tc p = true then (if dg n tc (p + 1) = true then p + 2 else p + 1) else p
theorem m_thingNext (hR : tRef h d R) (hT : TX I n tc) (hp : p < 900) (h1 : I 56 18 = nI nt) (hn : nt < 1000) : tEv E 54 0 [.ref 56, tm_dum, tm_dum] [] (mS (hr I p) J R) Q = Q (some (if thOk n tc nt p = true then nI (thV n tc p) else -4)) (mS (hr I (thP n tc p)) J R) := by
  simp only [e_54_0, e_54_1, e_54_3, e_54_5, rf_56_0 hR, rf_56_4 hR, rf_56_5 hR, rf_56_6 hR, rf_56_7 hR, rf_56_8 hR, rf_56_9 hR, rf_56_10 hR, rf_56_11 hR, rf_56_12 hR, rf_56_14 hR, rf_56_15 hR, rf_56_19 hR, rf_56_20 hR, rf_56_21 hR, rf_56_22 hR, rf_56_23 hR, rf_56_24 hR, rf_56_25 hR, rf_56_26 hR, rf_56_27 hR, rf_56_29 hR, rf_56_32 hR, rf_56_33 hR, rf_56_34 hR, rf_56_37 hR, rf_56_38 hR, kn_56, kn_57, kn_58, kn_59, kn_60, kn_61, kn_62, kn_63, kn_64, kn_65, kn_66, kn_67, kn_68, kn_69, kn_70, kn_71, kn_72, kn_73, kn_74, kn_75, kn_76, kn_77, kn_78, kn_79, kn_80, kn_81, kn_82, kn_83, ln_57, ln_58, ln_59, ln_60, ln_61, ln_62, ln_63, ln_64, ln_65, ln_66, ln_67, ln_68, ln_69, ln_70, ln_71, ln_72, ln_73, ln_74, ln_75, ln_76, ln_77, ln_78, ln_79, ln_80, ln_81, ln_82, ln_83, va_rf_some, push_s, push_n, nb0, nb1, nbb, Nat.reduceLT, m_dig hR hT (show p < 1000 by omega)]
  unfold thOk thP
  cases c : dg n tc p with
  | false =>
    simp only [Bool.false_eq_true, if_false, e_54_8, e_54_9, e_54_10, e_54_12, e_54_15, e_54_17, e_54_20, e_54_21, e_54_23, e_54_25, e_54_28, e_54_29, e_54_30, e_54_32, e_54_35, e_54_37, e_54_38, e_54_39, e_54_40, e_54_41, e_54_42, e_54_45, e_54_48, e_54_50, e_54_53, e_54_55, e_54_56, e_54_57, e_54_58, e_54_59, rf_56_0 hR, rf_56_4 hR, rf_56_5 hR, rf_56_6 hR, rf_56_7 hR, rf_56_8 hR, rf_56_9 hR, rf_56_10 hR, rf_56_11 hR, rf_56_12 hR, rf_56_14 hR, rf_56_15 hR, rf_56_19 hR, rf_56_20 hR, rf_56_21 hR, rf_56_22 hR, rf_56_23 hR, rf_56_24 hR, rf_56_25 hR, rf_56_26 hR, rf_56_27 hR, rf_56_29 hR, rf_56_32 hR, rf_56_33 hR, rf_56_34 hR, rf_56_37 hR, rf_56_38 hR, kn_56, kn_57, kn_58, kn_59, kn_60, kn_61, kn_62, kn_63, kn_64, kn_65, kn_66, kn_67, kn_68, kn_69, kn_70, kn_71, kn_72, kn_73, kn_74, kn_75, kn_76, kn_77, kn_78, kn_79, kn_80, kn_81, kn_82, kn_83, ln_57, ln_58, ln_59, ln_60, ln_61, ln_62, ln_63, ln_64, ln_65, ln_66, ln_67, ln_68, ln_69, ln_70, ln_71, ln_72, ln_73, ln_74, ln_75, ln_76, ln_77, ln_78, ln_79, ln_80, ln_81, ln_82, ln_83, va_rf_some, push_s, push_n, nb0, nb1, nbb, Nat.reduceLT, if_true, Bool.false_and]
  | true =>
    have hd := dv_lt c
    have e4 : (nI (dv n tc p) = -4) = False := eq_false (nI_n4 (by omega))
    simp only [if_true, e_54_8, e_54_9, e_54_10, e_54_12, e_54_15, e_54_17, e_54_20, e_54_21, e_54_23, e_54_25, rf_56_0 hR, rf_56_4 hR, rf_56_5 hR, rf_56_6 hR, rf_56_7 hR, rf_56_8 hR, rf_56_9 hR, rf_56_10 hR, rf_56_11 hR, rf_56_12 hR, rf_56_14 hR, rf_56_15 hR, rf_56_19 hR, rf_56_20 hR, rf_56_21 hR, rf_56_22 hR, rf_56_23 hR, rf_56_24 hR, rf_56_25 hR, rf_56_26 hR, rf_56_27 hR, rf_56_29 hR, rf_56_32 hR, rf_56_33 hR, rf_56_34 hR, rf_56_37 hR, rf_56_38 hR, kn_56, kn_57, kn_58, kn_59, kn_60, kn_61, kn_62, kn_63, kn_64, kn_65, kn_66, kn_67, kn_68, kn_69, kn_70, kn_71, kn_72, kn_73, kn_74, kn_75, kn_76, kn_77, kn_78, kn_79, kn_80, kn_81, kn_82, kn_83, ln_57, ln_58, ln_59, ln_60, ln_61, ln_62, ln_63, ln_64, ln_65, ln_66, ln_67, ln_68, ln_69, ln_70, ln_71, ln_72, ln_73, ln_74, ln_75, ln_76, ln_77, ln_78, ln_79, ln_80, ln_81, ln_82, ln_83, va_rf_some, push_s, push_n, nb0, nb1, nbb, Nat.reduceLT, e4, if_false, m_dig hR hT (show p + 1 < 1000 by omega)]
    cases c1 : dg n tc (p + 1) with
    | false =>
      simp only [Bool.false_eq_true, if_false, e_54_28, e_54_29, e_54_30, e_54_32, e_54_35, e_54_37, e_54_38, e_54_39, e_54_40, e_54_41, e_54_42, e_54_45, e_54_48, e_54_50, e_54_53, e_54_55, e_54_56, e_54_57, e_54_58, e_54_59, rf_56_0 hR, rf_56_4 hR, rf_56_5 hR, rf_56_6 hR, rf_56_7 hR, rf_56_8 hR, rf_56_9 hR, rf_56_10 hR, rf_56_11 hR, rf_56_12 hR, rf_56_14 hR, rf_56_15 hR, rf_56_19 hR, rf_56_20 hR, rf_56_21 hR, rf_56_22 hR, rf_56_23 hR, rf_56_24 hR, rf_56_25 hR, rf_56_26 hR, rf_56_27 hR, rf_56_29 hR, rf_56_32 hR, rf_56_33 hR, rf_56_34 hR, rf_56_37 hR, rf_56_38 hR, kn_56, kn_57, kn_58, kn_59, kn_60, kn_61, kn_62, kn_63, kn_64, kn_65, kn_66, kn_67, kn_68, kn_69, kn_70, kn_71, kn_72, kn_73, kn_74, kn_75, kn_76, kn_77, kn_78, kn_79, kn_80, kn_81, kn_82, kn_83, ln_57, ln_58, ln_59, ln_60, ln_61, ln_62, ln_63, ln_64, ln_65, ln_66, ln_67, ln_68, ln_69, ln_70, ln_71, ln_72, ln_73, ln_74, ln_75, ln_76, ln_77, ln_78, ln_79, ln_80, ln_81, ln_82, ln_83, va_rf_some, push_s, push_n, nb0, nb1, nbb, Nat.reduceLT, if_true, Bool.false_and, Bool.and_false]
    | true =>
      have hd1 := dv_lt c1
      have e5 : (nI (dv n tc (p + 1)) = -4) = False := eq_false (nI_n4 (by omega))
      have ev : (10 : Int32) * nI (dv n tc p) + nI (dv n tc (p + 1)) = nI (thV n tc p) := by rw [show (10 : Int32) = nI 10 from rfl, nI_mul, nI_add]; rfl
      have hv : thV n tc p < 1000 := by unfold thV; omega
      have hlt : (nI (thV n tc p) < nI nt) = (thV n tc p < nt) := propext (nI_ltI (by omega) (by omega))
      simp only [if_true, e_54_28, e_54_29, e_54_30, e_54_32, e_54_35, e_54_37, e_54_38, e_54_39, e_54_40, e_54_41, e_54_42, e_54_45, e_54_48, e_54_50, e_54_53, e_54_55, e_54_56, e_54_57, e_54_58, e_54_59, rf_56_0 hR, rf_56_4 hR, rf_56_5 hR, rf_56_6 hR, rf_56_7 hR, rf_56_8 hR, rf_56_9 hR, rf_56_10 hR, rf_56_11 hR, rf_56_12 hR, rf_56_14 hR, rf_56_15 hR, rf_56_19 hR, rf_56_20 hR, rf_56_21 hR, rf_56_22 hR, rf_56_23 hR, rf_56_24 hR, rf_56_25 hR, rf_56_26 hR, rf_56_27 hR, rf_56_29 hR, rf_56_32 hR, rf_56_33 hR, rf_56_34 hR, rf_56_37 hR, rf_56_38 hR, kn_56, kn_57, kn_58, kn_59, kn_60, kn_61, kn_62, kn_63, kn_64, kn_65, kn_66, kn_67, kn_68, kn_69, kn_70, kn_71, kn_72, kn_73, kn_74, kn_75, kn_76, kn_77, kn_78, kn_79, kn_80, kn_81, kn_82, kn_83, ln_57, ln_58, ln_59, ln_60, ln_61, ln_62, ln_63, ln_64, ln_65, ln_66, ln_67, ln_68, ln_69, ln_70, ln_71, ln_72, ln_73, ln_74, ln_75, ln_76, ln_77, ln_78, ln_79, ln_80, ln_81, ln_82, ln_83, va_rf_some, push_s, push_n, nb0, nb1, nbb, Nat.reduceLT, e5, if_false, hr_k18, h1, ev, hlt, Bool.true_and, decide_eq_true_eq]
      by_cases c2 : thV n tc p < nt <;> simp [c2]
/-- a room is read -/
def rdRoom (I : Nat → Nat → Int32) (nr v : Nat) : Nat → Nat → Int32 := va_up (va_up I 69 (upd (I 69) nr (nI v))) 56 (upd (I 56) 17 (nI (nr + 1)))
theorem m_readsRoom (hR : tRef h d R) (hT : TX I n tc) (hp : p < 1000) (h1 : I 56 17 = nI nr) (hn : nr ≤ 6) : tEv E 51 0 [.ref 56, tm_dum] [] (mS (hr I p) J R) Q = if nr < 6 ∧ 48 ≤ cc n tc p ∧ cc n tc p ≤ 49 then Q (some 1) (mS (hr (rdRoom I nr (dv n tc p)) (p + 1)) J R) else Q (some 0) (mS (hr I (if 48 ≤ cc n tc p ∧ cc n tc p ≤ 49 then p + 1 else p)) J R) := by
  have hnx := fun {Q} => m_next (E := E) (Q := Q) (J := J) hR hT hp (lo := 48) (hi := 49) (by decide) (by decide) (by decide)
  rw [show nI 48 = 48 from rfl, show nI 49 = 49 from rfl] at hnx
  have e6 : (nI nr = 6) = (nr = 6) := propext (nI_eq (b := 6) (by omega) (by omega))
  simp only [e_51_0, e_51_1, e_51_3, e_51_5, rf_56_0 hR, rf_56_4 hR, rf_56_5 hR, rf_56_6 hR, rf_56_7 hR, rf_56_8 hR, rf_56_9 hR, rf_56_10 hR, rf_56_11 hR, rf_56_12 hR, rf_56_14 hR, rf_56_15 hR, rf_56_19 hR, rf_56_20 hR, rf_56_21 hR, rf_56_22 hR, rf_56_23 hR, rf_56_24 hR, rf_56_25 hR, rf_56_26 hR, rf_56_27 hR, rf_56_29 hR, rf_56_32 hR, rf_56_33 hR, rf_56_34 hR, rf_56_37 hR, rf_56_38 hR, kn_56, kn_57, kn_58, kn_59, kn_60, kn_61, kn_62, kn_63, kn_64, kn_65, kn_66, kn_67, kn_68, kn_69, kn_70, kn_71, kn_72, kn_73, kn_74, kn_75, kn_76, kn_77, kn_78, kn_79, kn_80, kn_81, kn_82, kn_83, ln_57, ln_58, ln_59, ln_60, ln_61, ln_62, ln_63, ln_64, ln_65, ln_66, ln_67, ln_68, ln_69, ln_70, ln_71, ln_72, ln_73, ln_74, ln_75, ln_76, ln_77, ln_78, ln_79, ln_80, ln_81, ln_82, ln_83, va_rf_some, push_s, push_n, nb0, nb1, nbb, Nat.reduceLT, hnx]
  by_cases c : 48 ≤ cc n tc p ∧ cc n tc p ≤ 49
  · have e4 : (nI (cc n tc p - 48) = -4) = False := eq_false (nI_n4 (by omega))
    simp only [c, and_self, if_true, e_51_8, e_51_9, e_51_10, e_51_13, e_51_15, e_51_18, e_51_19, e_51_21, rf_56_0 hR, rf_56_4 hR, rf_56_5 hR, rf_56_6 hR, rf_56_7 hR, rf_56_8 hR, rf_56_9 hR, rf_56_10 hR, rf_56_11 hR, rf_56_12 hR, rf_56_14 hR, rf_56_15 hR, rf_56_19 hR, rf_56_20 hR, rf_56_21 hR, rf_56_22 hR, rf_56_23 hR, rf_56_24 hR, rf_56_25 hR, rf_56_26 hR, rf_56_27 hR, rf_56_29 hR, rf_56_32 hR, rf_56_33 hR, rf_56_34 hR, rf_56_37 hR, rf_56_38 hR, kn_56, kn_57, kn_58, kn_59, kn_60, kn_61, kn_62, kn_63, kn_64, kn_65, kn_66, kn_67, kn_68, kn_69, kn_70, kn_71, kn_72, kn_73, kn_74, kn_75, kn_76, kn_77, kn_78, kn_79, kn_80, kn_81, kn_82, kn_83, ln_57, ln_58, ln_59, ln_60, ln_61, ln_62, ln_63, ln_64, ln_65, ln_66, ln_67, ln_68, ln_69, ln_70, ln_71, ln_72, ln_73, ln_74, ln_75, ln_76, ln_77, ln_78, ln_79, ln_80, ln_81, ln_82, ln_83, va_rf_some, push_s, push_n, nb0, nb1, nbb, Nat.reduceLT, hr_k17, h1, e6, e4, if_false]
    by_cases c2 : nr = 6
    · subst c2
      simp only [if_true, e_51_24, e_51_25, rf_56_0 hR, rf_56_4 hR, rf_56_5 hR, rf_56_6 hR, rf_56_7 hR, rf_56_8 hR, rf_56_9 hR, rf_56_10 hR, rf_56_11 hR, rf_56_12 hR, rf_56_14 hR, rf_56_15 hR, rf_56_19 hR, rf_56_20 hR, rf_56_21 hR, rf_56_22 hR, rf_56_23 hR, rf_56_24 hR, rf_56_25 hR, rf_56_26 hR, rf_56_27 hR, rf_56_29 hR, rf_56_32 hR, rf_56_33 hR, rf_56_34 hR, rf_56_37 hR, rf_56_38 hR, kn_56, kn_57, kn_58, kn_59, kn_60, kn_61, kn_62, kn_63, kn_64, kn_65, kn_66, kn_67, kn_68, kn_69, kn_70, kn_71, kn_72, kn_73, kn_74, kn_75, kn_76, kn_77, kn_78, kn_79, kn_80, kn_81, kn_82, kn_83, ln_57, ln_58, ln_59, ln_60, ln_61, ln_62, ln_63, ln_64, ln_65, ln_66, ln_67, ln_68, ln_69, ln_70, ln_71, ln_72, ln_73, ln_74, ln_75, ln_76, ln_77, ln_78, ln_79, ln_80, ln_81, ln_82, ln_83, va_rf_some, push_s, push_n, nb0, nb1, nbb, Nat.reduceLT]
      rw [if_neg (by simp)]
    · have hix := inb_nI (j := nr) (n := 6) (by omega) (by decide)
      have hcl := nI_cl (n := nr) (by omega)
      rw [if_neg c2]
      simp only [e_51_26, e_51_27, e_51_30, e_51_31, e_51_34, e_51_35, e_51_36, e_51_37, e_51_38, e_51_41, e_51_42, e_51_43, e_51_46, e_51_47, rf_56_0 hR, rf_56_4 hR, rf_56_5 hR, rf_56_6 hR, rf_56_7 hR, rf_56_8 hR, rf_56_9 hR, rf_56_10 hR, rf_56_11 hR, rf_56_12 hR, rf_56_14 hR, rf_56_15 hR, rf_56_19 hR, rf_56_20 hR, rf_56_21 hR, rf_56_22 hR, rf_56_23 hR, rf_56_24 hR, rf_56_25 hR, rf_56_26 hR, rf_56_27 hR, rf_56_29 hR, rf_56_32 hR, rf_56_33 hR, rf_56_34 hR, rf_56_37 hR, rf_56_38 hR, kn_56, kn_57, kn_58, kn_59, kn_60, kn_61, kn_62, kn_63, kn_64, kn_65, kn_66, kn_67, kn_68, kn_69, kn_70, kn_71, kn_72, kn_73, kn_74, kn_75, kn_76, kn_77, kn_78, kn_79, kn_80, kn_81, kn_82, kn_83, ln_57, ln_58, ln_59, ln_60, ln_61, ln_62, ln_63, ln_64, ln_65, ln_66, ln_67, ln_68, ln_69, ln_70, ln_71, ln_72, ln_73, ln_74, ln_75, ln_76, ln_77, ln_78, ln_79, ln_80, ln_81, ln_82, ln_83, va_rf_some, push_s, push_n, nb0, nb1, nbb, Nat.reduceLT, hr_k17, hr_c69, hr_u69, h1, hix, hcl, vu, Nat.reduceEqDiff, reduceIte, nI_1, hr_s17]
      rw [if_pos ⟨by omega, trivial⟩]
      rfl
  · simp only [c, if_false, e_51_8, e_51_9, e_51_10, e_51_13, e_51_15, e_51_18, e_51_19, e_51_21, e_51_24, e_51_25, rf_56_0 hR, rf_56_4 hR, rf_56_5 hR, rf_56_6 hR, rf_56_7 hR, rf_56_8 hR, rf_56_9 hR, rf_56_10 hR, rf_56_11 hR, rf_56_12 hR, rf_56_14 hR, rf_56_15 hR, rf_56_19 hR, rf_56_20 hR, rf_56_21 hR, rf_56_22 hR, rf_56_23 hR, rf_56_24 hR, rf_56_25 hR, rf_56_26 hR, rf_56_27 hR, rf_56_29 hR, rf_56_32 hR, rf_56_33 hR, rf_56_34 hR, rf_56_37 hR, rf_56_38 hR, kn_56, kn_57, kn_58, kn_59, kn_60, kn_61, kn_62, kn_63, kn_64, kn_65, kn_66, kn_67, kn_68, kn_69, kn_70, kn_71, kn_72, kn_73, kn_74, kn_75, kn_76, kn_77, kn_78, kn_79, kn_80, kn_81, kn_82, kn_83, ln_57, ln_58, ln_59, ln_60, ln_61, ln_62, ln_63, ln_64, ln_65, ln_66, ln_67, ln_68, ln_69, ln_70, ln_71, ln_72, ln_73, ln_74, ln_75, ln_76, ln_77, ln_78, ln_79, ln_80, ln_81, ln_82, ln_83, va_rf_some, push_s, push_n, nb0, nb1, nbb, Nat.reduceLT, hr_k17, h1, e6, if_true, and_false]
    by_cases c2 : nr = 6 <;> simp [c2]
end RD
