/-! ===== the model: sentences ===== -/
def ha (I : Nat → Nat → Int32) (p : Nat) : Nat → Nat → Int32 := va_up I 56 (upd (I 56) 31 (nI p))
theorem ha_31 {I : Nat → Nat → Int32} {p : Nat} : ha I p 56 31 = nI p := Eq.trans rfl rfl
theorem ha_set {I : Nat → Nat → Int32} {p q : Nat} : va_up (ha I p) 56 (upd (ha I p 56) 31 (nI q)) = ha I q := by
  unfold ha
  rw [vu_vu, vu_eq, upd_upd]
theorem ha_up (I : Nat → Nat → Int32) (p c : Nat) (h : c ≠ 56) (f : Nat → Int32) : va_up (ha I p) c f = ha (va_up I c f) p := by
  unfold ha
  rw [vu_comm I (Ne.symm h), vu, if_neg (Ne.symm h)]
theorem ha_c78 {I : Nat → Nat → Int32} {p : Nat} : ha I p 78 = I 78 := Eq.trans rfl rfl
theorem ha_c79 {I : Nat → Nat → Int32} {p : Nat} : ha I p 79 = I 79 := Eq.trans rfl rfl
theorem ha_c80 {I : Nat → Nat → Int32} {p : Nat} : ha I p 80 = I 80 := Eq.trans rfl rfl
theorem ha_c81 {I : Nat → Nat → Int32} {p : Nat} : ha I p 81 = I 81 := Eq.trans rfl rfl
theorem ha_u79 {I : Nat → Nat → Int32} {p : Nat} {f : Nat → Int32} : va_up (ha I p) 79 f = ha (va_up I 79 f) p := ha_up I p 79 (by decide) f
theorem ha_u80 {I : Nat → Nat → Int32} {p : Nat} {f : Nat → Int32} : va_up (ha I p) 80 f = ha (va_up I 80 f) p := ha_up I p 80 (by decide) f
theorem ha_u81 {I : Nat → Nat → Int32} {p : Nat} {f : Nat → Int32} : va_up (ha I p) 81 f = ha (va_up I 81 f) p := ha_up I p 81 (by decide) f
theorem ha_k30 {I : Nat → Nat → Int32} {p : Nat} : ha I p 56 30 = I 56 30 := Eq.trans rfl rfl
theorem ha_k35 {I : Nat → Nat → Int32} {p : Nat} : ha I p 56 35 = I 56 35 := Eq.trans rfl rfl
/-- the words said: c of them -/
def WS (I : Nat → Nat → Int32) (c : Nat) (wn : Nat → Nat) : Prop := I 56 30 = nI c ∧ c ≤ 121 ∧ ∀ k, k < c → I 78 k = nI (wn k) ∧ wn k < 43
/-- the word at k; 99 at the end -/
def wo (c : Nat) (wn : Nat → Nat) (k : Nat) : Nat := if k < c then wn k else 99
def wv (c : Nat) (wn : Nat → Nat) (k : Nat) : Int32 := if k < c then nI (wn k) else -4
theorem WS_ha {I : Nat → Nat → Int32} {c p : Nat} {wn : Nat → Nat} (h : WS I c wn) : WS (ha I p) c wn := h
theorem wv_eq {I : Nat → Nat → Int32} {c : Nat} {wn : Nat → Nat} (h : WS I c wn) {k x : Nat} (hx : x < 43) : (wv c wn k = nI x) = (wo c wn k = x) := by
  apply propext
  unfold wv wo
  by_cases q : k < c
  · have := (h.2.2 k q).2
    rw [if_pos q, if_pos q]
    exact nI_eq (by omega) (by omega)
  · rw [if_neg q, if_neg q]
    constructor
    · intro e
      exact absurd e.symm (nI_n4 (by omega))
    · intro e
      omega
theorem wv_in {I : Nat → Nat → Int32} {c : Nat} {wn : Nat → Nat} (h : WS I c wn) {k lo hi : Nat} (h2 : hi < 43) (h1 : lo < 43) : decide (nI lo ≤ wv c wn k ∧ wv c wn k ≤ nI hi) = decide (lo ≤ wo c wn k ∧ wo c wn k ≤ hi) := by
  rw [decide_eq_decide]
  unfold wv wo
  by_cases q : k < c
  · have := (h.2.2 k q).2
    rw [if_pos q, if_pos q, nI_leI (by omega) (by omega), nI_leI (by omega) (by omega)]
  · rw [if_neg q, if_neg q]
    constructor
    · intro e
      have e1 := Int32.le_iff_toInt_le.mp e.1
      rw [nI_toInt (by omega)] at e1
      have : (-4 : Int32).toInt = -4 := by decide
      omega
    · intro e
      omega
def smS (I : Nat → Nat → Int32) (k : Nat) (ad no : Int32) : Nat → Nat → Int32 := va_up (va_up (va_up I 79 (upd (I 79) k 0)) 80 (upd (I 80) k ad)) 81 (upd (I 81) k no)
theorem smS_80 (I : Nat → Nat → Int32) (k : Nat) (a b v : Int32) : va_up (smS I k a b) 80 (upd (smS I k a b 80) k v) = smS I k v b := by
  unfold smS
  rw [vu_comm _ (k := 81) (j := 80) (by decide), vu_vu]
  congr 2
  rw [vu, if_neg (by decide), vu, if_pos rfl, upd_upd]
theorem smS_81 (I : Nat → Nat → Int32) (k : Nat) (a b v : Int32) : va_up (smS I k a b) 81 (upd (smS I k a b 81) k v) = smS I k a v := by
  unfold smS
  rw [vu_vu, vu_eq, upd_upd]
theorem wv_lt {c : Nat} {wn : Nat → Nat} {k : Nat} (h : wo c wn k < 43) : wv c wn k = nI (wo c wn k) := by
  unfold wo at h
  unfold wo wv
  by_cases q : k < c
  · rw [if_pos q, if_pos q]
  · rw [if_neg q] at h
    omega
section SN
variable {E : tm_Env} {Q : Option Int32 → tm_St → Prop} {I : Nat → Nat → Int32} {J : Nat → Nat → Int64} {R : Nat → Nat → Option Nat} {h d : Nat} {n a c : Nat} {tc wn : Nat → Nat}
theorem m_readsWords (hR : tRef h d R) (hT : TX I n tc) (hJ : wrd J 0 43 0 = -4) : tEv E 139 0 [.ref 56, tm_dum, tm_dum, tm_dum, tm_dum, tm_dum, tm_dum] [] (mS I J R) Q = Q (some (b2i (rwd J n tc (n + 2) 0 0 (I 78)).1)) (mS (sdS I (rwd J n tc (n + 2) 0 0 (I 78)).2.1 (rwd J n tc (n + 2) 0 0 (I 78)).2.2) J R) := by
  have hl := fun {l3 l4 l5 l6 Q} => m_readsWords_loop (E := E) (Q := Q) (J := J) (I := I) hR hT hJ (n + 2) 0 0 (I 78) l3 l4 l5 l6 (by omega) (by omega) (by omega)
  have e : sdS I 0 (I 78) = va_up I 56 (upd (I 56) 30 0) := by
    unfold sdS
    have : (va_up I 56 (upd (I 56) 30 (nI 0))) 78 = I 78 := rfl
    rw [← this, vu_self]
    rfl
  rw [e] at hl
  simp only [e_139_0, e_139_1, e_139_2, e_139_5, e_139_6, e_139_8, e_139_7, rf_56_0 hR, rf_56_4 hR, rf_56_5 hR, rf_56_6 hR, rf_56_7 hR, rf_56_8 hR, rf_56_9 hR, rf_56_10 hR, rf_56_11 hR, rf_56_12 hR, rf_56_14 hR, rf_56_15 hR, rf_56_19 hR, rf_56_20 hR, rf_56_21 hR, rf_56_22 hR, rf_56_23 hR, rf_56_24 hR, rf_56_25 hR, rf_56_26 hR, rf_56_27 hR, rf_56_29 hR, rf_56_32 hR, rf_56_33 hR, rf_56_34 hR, rf_56_37 hR, rf_56_38 hR, kn_56, kn_57, kn_58, kn_59, kn_60, kn_61, kn_62, kn_63, kn_64, kn_65, kn_66, kn_67, kn_68, kn_69, kn_70, kn_71, kn_72, kn_73, kn_74, kn_75, kn_76, kn_77, kn_78, kn_79, kn_80, kn_81, kn_82, kn_83, ln_57, ln_58, ln_59, ln_60, ln_61, ln_62, ln_63, ln_64, ln_65, ln_66, ln_67, ln_68, ln_69, ln_70, ln_71, ln_72, ln_73, ln_74, ln_75, ln_76, ln_77, ln_78, ln_79, ln_80, ln_81, ln_82, ln_83, va_rf_some, push_s, push_n, nb0, nb1, nbb, Nat.reduceLT]
  exact hl
theorem m_wordAt (hR : tRef h d R) (hS : WS I c wn) {k : Nat} (hk : k < 1000) : tEv E 140 0 [.ref 56, .int (nI k)] [] (mS I J R) Q = Q (some (wv c wn k)) (mS I J R) := by
  have hc := hS.2.1
  have hlt : (nI k < nI c) = (k < c) := propext (nI_ltI (by omega) (by omega))
  unfold wv
  by_cases q : k < c
  · have hix := inb_nI (j := k) (n := 121) (by omega) (by decide)
    have hcl := nI_cl (n := k) (by omega)
    simp only [e_140_0, e_140_1, e_140_2, e_140_5, e_140_8, e_140_9, e_140_12, e_140_13, e_140_14, e_140_17, e_140_19, rf_56_0 hR, rf_56_4 hR, rf_56_5 hR, rf_56_6 hR, rf_56_7 hR, rf_56_8 hR, rf_56_9 hR, rf_56_10 hR, rf_56_11 hR, rf_56_12 hR, rf_56_14 hR, rf_56_15 hR, rf_56_19 hR, rf_56_20 hR, rf_56_21 hR, rf_56_22 hR, rf_56_23 hR, rf_56_24 hR, rf_56_25 hR, rf_56_26 hR, rf_56_27 hR, rf_56_29 hR, rf_56_32 hR, rf_56_33 hR, rf_56_34 hR, rf_56_37 hR, rf_56_38 hR, kn_56, kn_57, kn_58, kn_59, kn_60, kn_61, kn_62, kn_63, kn_64, kn_65, kn_66, kn_67, kn_68, kn_69, kn_70, kn_71, kn_72, kn_73, kn_74, kn_75, kn_76, kn_77, kn_78, kn_79, kn_80, kn_81, kn_82, kn_83, ln_57, ln_58, ln_59, ln_60, ln_61, ln_62, ln_63, ln_64, ln_65, ln_66, ln_67, ln_68, ln_69, ln_70, ln_71, ln_72, ln_73, ln_74, ln_75, ln_76, ln_77, ln_78, ln_79, ln_80, ln_81, ln_82, ln_83, va_rf_some, push_s, push_n, nb0, nb1, nbb, Nat.reduceLT, hS.1, hlt, q, if_true, hix, hcl, (hS.2.2 k q).1]
  · simp only [e_140_0, e_140_1, e_140_2, e_140_5, e_140_8, e_140_9, e_140_12, e_140_13, e_140_14, e_140_17, e_140_19, rf_56_0 hR, rf_56_4 hR, rf_56_5 hR, rf_56_6 hR, rf_56_7 hR, rf_56_8 hR, rf_56_9 hR, rf_56_10 hR, rf_56_11 hR, rf_56_12 hR, rf_56_14 hR, rf_56_15 hR, rf_56_19 hR, rf_56_20 hR, rf_56_21 hR, rf_56_22 hR, rf_56_23 hR, rf_56_24 hR, rf_56_25 hR, rf_56_26 hR, rf_56_27 hR, rf_56_29 hR, rf_56_32 hR, rf_56_33 hR, rf_56_34 hR, rf_56_37 hR, rf_56_38 hR, kn_56, kn_57, kn_58, kn_59, kn_60, kn_61, kn_62, kn_63, kn_64, kn_65, kn_66, kn_67, kn_68, kn_69, kn_70, kn_71, kn_72, kn_73, kn_74, kn_75, kn_76, kn_77, kn_78, kn_79, kn_80, kn_81, kn_82, kn_83, ln_57, ln_58, ln_59, ln_60, ln_61, ln_62, ln_63, ln_64, ln_65, ln_66, ln_67, ln_68, ln_69, ln_70, ln_71, ln_72, ln_73, ln_74, ln_75, ln_76, ln_77, ln_78, ln_79, ln_80, ln_81, ln_82, ln_83, va_rf_some, push_s, push_n, nb0, nb1, nbb, Nat.reduceLT, hS.1, hlt, q, if_false]
/-- behind the word x, if it is there -/
def ow (c : Nat) (wn : Nat → Nat) (x a : Nat) : Nat := if wo c wn a = x then a + 1 else a
theorem m_isWord (hR : tRef h d R) (hS : WS I c wn) (ha' : a < 1000) {x : Nat} (hx : x < 43) : tEv E 141 0 [.ref 56, .int (nI x), tm_dum] [] (mS (ha I a) J R) Q = Q (some (b2i (decide (wo c wn a = x)))) (mS (ha I (ow c wn x a)) J R) := by
  have hw := fun {Q} => m_wordAt (E := E) (Q := Q) (J := J) hR (WS_ha (p := a) hS) ha'
  simp only [e_141_0, e_141_1, e_141_2, e_141_5, rf_56_0 hR, rf_56_4 hR, rf_56_5 hR, rf_56_6 hR, rf_56_7 hR, rf_56_8 hR, rf_56_9 hR, rf_56_10 hR, rf_56_11 hR, rf_56_12 hR, rf_56_14 hR, rf_56_15 hR, rf_56_19 hR, rf_56_20 hR, rf_56_21 hR, rf_56_22 hR, rf_56_23 hR, rf_56_24 hR, rf_56_25 hR, rf_56_26 hR, rf_56_27 hR, rf_56_29 hR, rf_56_32 hR, rf_56_33 hR, rf_56_34 hR, rf_56_37 hR, rf_56_38 hR, kn_56, kn_57, kn_58, kn_59, kn_60, kn_61, kn_62, kn_63, kn_64, kn_65, kn_66, kn_67, kn_68, kn_69, kn_70, kn_71, kn_72, kn_73, kn_74, kn_75, kn_76, kn_77, kn_78, kn_79, kn_80, kn_81, kn_82, kn_83, ln_57, ln_58, ln_59, ln_60, ln_61, ln_62, ln_63, ln_64, ln_65, ln_66, ln_67, ln_68, ln_69, ln_70, ln_71, ln_72, ln_73, ln_74, ln_75, ln_76, ln_77, ln_78, ln_79, ln_80, ln_81, ln_82, ln_83, va_rf_some, push_s, push_n, nb0, nb1, nbb, Nat.reduceLT, ha_31, hw]
  unfold ow
  by_cases q : wo c wn a = x
  · simp only [e_141_8, e_141_9, e_141_12, e_141_13, e_141_16, e_141_17, e_141_18, e_141_19, e_141_20, e_141_23, e_141_24, e_141_27, e_141_28, e_141_31, e_141_32, e_141_33, e_141_36, e_141_37, rf_56_0 hR, rf_56_4 hR, rf_56_5 hR, rf_56_6 hR, rf_56_7 hR, rf_56_8 hR, rf_56_9 hR, rf_56_10 hR, rf_56_11 hR, rf_56_12 hR, rf_56_14 hR, rf_56_15 hR, rf_56_19 hR, rf_56_20 hR, rf_56_21 hR, rf_56_22 hR, rf_56_23 hR, rf_56_24 hR, rf_56_25 hR, rf_56_26 hR, rf_56_27 hR, rf_56_29 hR, rf_56_32 hR, rf_56_33 hR, rf_56_34 hR, rf_56_37 hR, rf_56_38 hR, kn_56, kn_57, kn_58, kn_59, kn_60, kn_61, kn_62, kn_63, kn_64, kn_65, kn_66, kn_67, kn_68, kn_69, kn_70, kn_71, kn_72, kn_73, kn_74, kn_75, kn_76, kn_77, kn_78, kn_79, kn_80, kn_81, kn_82, kn_83, ln_57, ln_58, ln_59, ln_60, ln_61, ln_62, ln_63, ln_64, ln_65, ln_66, ln_67, ln_68, ln_69, ln_70, ln_71, ln_72, ln_73, ln_74, ln_75, ln_76, ln_77, ln_78, ln_79, ln_80, ln_81, ln_82, ln_83, va_rf_some, push_s, push_n, nb0, nb1, nbb, Nat.reduceLT, wv_eq hS hx, q, if_true, ha_31, nI_1, ha_set, decide_true, show ((1 : Int32) = 0) = False from eq_false (by decide), if_false]
    rfl
  · simp only [e_141_8, e_141_9, e_141_12, e_141_13, e_141_16, e_141_17, e_141_18, e_141_19, e_141_20, e_141_23, e_141_24, e_141_27, e_141_28, e_141_31, e_141_32, e_141_33, e_141_36, e_141_37, rf_56_0 hR, rf_56_4 hR, rf_56_5 hR, rf_56_6 hR, rf_56_7 hR, rf_56_8 hR, rf_56_9 hR, rf_56_10 hR, rf_56_11 hR, rf_56_12 hR, rf_56_14 hR, rf_56_15 hR, rf_56_19 hR, rf_56_20 hR, rf_56_21 hR, rf_56_22 hR, rf_56_23 hR, rf_56_24 hR, rf_56_25 hR, rf_56_26 hR, rf_56_27 hR, rf_56_29 hR, rf_56_32 hR, rf_56_33 hR, rf_56_34 hR, rf_56_37 hR, rf_56_38 hR, kn_56, kn_57, kn_58, kn_59, kn_60, kn_61, kn_62, kn_63, kn_64, kn_65, kn_66, kn_67, kn_68, kn_69, kn_70, kn_71, kn_72, kn_73, kn_74, kn_75, kn_76, kn_77, kn_78, kn_79, kn_80, kn_81, kn_82, kn_83, ln_57, ln_58, ln_59, ln_60, ln_61, ln_62, ln_63, ln_64, ln_65, ln_66, ln_67, ln_68, ln_69, ln_70, ln_71, ln_72, ln_73, ln_74, ln_75, ln_76, ln_77, ln_78, ln_79, ln_80, ln_81, ln_82, ln_83, va_rf_some, push_s, push_n, nb0, nb1, nbb, Nat.reduceLT, wv_eq hS hx, q, if_true, if_false, ha_31, Int32.add_zero, ha_set, decide_false]
    rfl
theorem m_isEnd (hR : tRef h d R) (hS : WS I c wn) (ha' : a < 1000) : tEv E 142 0 [.ref 56] [] (mS (ha I a) J R) Q = Q (some (b2i (decide (a = c)))) (mS (ha I a) J R) := by
  have hc := hS.2.1
  have e : (nI a = nI c) = (a = c) := propext (nI_eq (by omega) (by omega))
  simp only [e_142_0, e_142_1, e_142_4, e_142_5, e_142_8, e_142_11, e_142_12, e_142_15, e_142_16, rf_56_0 hR, rf_56_4 hR, rf_56_5 hR, rf_56_6 hR, rf_56_7 hR, rf_56_8 hR, rf_56_9 hR, rf_56_10 hR, rf_56_11 hR, rf_56_12 hR, rf_56_14 hR, rf_56_15 hR, rf_56_19 hR, rf_56_20 hR, rf_56_21 hR, rf_56_22 hR, rf_56_23 hR, rf_56_24 hR, rf_56_25 hR, rf_56_26 hR, rf_56_27 hR, rf_56_29 hR, rf_56_32 hR, rf_56_33 hR, rf_56_34 hR, rf_56_37 hR, rf_56_38 hR, kn_56, kn_57, kn_58, kn_59, kn_60, kn_61, kn_62, kn_63, kn_64, kn_65, kn_66, kn_67, kn_68, kn_69, kn_70, kn_71, kn_72, kn_73, kn_74, kn_75, kn_76, kn_77, kn_78, kn_79, kn_80, kn_81, kn_82, kn_83, ln_57, ln_58, ln_59, ln_60, ln_61, ln_62, ln_63, ln_64, ln_65, ln_66, ln_67, ln_68, ln_69, ln_70, ln_71, ln_72, ln_73, ln_74, ln_75, ln_76, ln_77, ln_78, ln_79, ln_80, ln_81, ln_82, ln_83, va_rf_some, push_s, push_n, nb0, nb1, nbb, Nat.reduceLT, ha_c78, ha_c79, ha_c80, ha_c81, ha_u79, ha_u80, ha_u81, ha_k30, ha_k35, ha_31, ha_set, hS.1, e]
  by_cases q : a = c <;> simp [q, b2i]
def s1 (c : Nat) (wn : Nat → Nat) (a : Nat) : Nat := ow c wn 36 a
def sAd (c : Nat) (wn : Nat → Nat) (a : Nat) : Bool := decide (12 ≤ wo c wn (s1 c wn a) ∧ wo c wn (s1 c wn a) ≤ 19)
def sAv (c : Nat) (wn : Nat → Nat) (a : Nat) : Int32 := if sAd c wn a = true then nI (wo c wn (s1 c wn a) - 12) else -4
def s2 (c : Nat) (wn : Nat → Nat) (a : Nat) : Nat := if sAd c wn a = true then s1 c wn a + 1 else s1 c wn a
def sNd (c : Nat) (wn : Nat → Nat) (a : Nat) : Bool := decide (wo c wn (s2 c wn a) ≤ 11)
def sNv (c : Nat) (wn : Nat → Nat) (a : Nat) : Int32 := if sNd c wn a = true then nI (wo c wn (s2 c wn a)) else -4
def s3 (c : Nat) (wn : Nat → Nat) (a : Nat) : Nat := if sNd c wn a = true then s2 c wn a + 1 else s2 c wn a
theorem s_le (c : Nat) (wn : Nat → Nat) (a : Nat) : s1 c wn a ≤ a + 1 ∧ s2 c wn a ≤ a + 2 ∧ s3 c wn a ≤ a + 3 := by
  have h1 : s1 c wn a ≤ a + 1 := by unfold s1 ow; split <;> omega
  have h2 : s2 c wn a ≤ s1 c wn a + 1 := by unfold s2; split <;> omega
  have h3 : s3 c wn a ≤ s2 c wn a + 1 := by unfold s3; split <;> omega
  omega
theorem m_readsSome (hR : tRef h d R) (hS : WS I c wn) (ha' : a < 900) {k : Nat} (hk : k < 2) : tEv E 143 0 [.ref 56, .int (nI k)] [] (mS (ha I a) J R) Q = Q none (mS (ha (smS I k (sAv c wn a) (sNv c wn a)) (s3 c wn a)) J R) := by
  have hle := s_le c wn a
  have hix := inb_nI (j := k) (n := 2) (by omega) (by decide)
  have hcl := nI_cl (n := k) (by omega)
  have n0 : vp_nar .boolean 0 = 0 := by decide
  have hw := fun {Q} => m_isWord (E := E) (Q := Q) (J := J) (I := smS I k (-4) (-4)) hR hS (show a < 1000 by omega) (x := 36) (by decide)
  rw [show nI 36 = 36 from rfl] at hw
  have e1 : va_up (va_up (va_up I 79 (upd (I 79) k 0)) 80 (upd (I 80) k (-4))) 81 (upd (I 81) k (-4)) = smS I k (-4) (-4) := rfl
  have hat := fun {I' Q} (hS' : WS I' c wn) => m_wordAt (E := E) (Q := Q) (J := J) (I := ha I' (s1 c wn a)) (k := s1 c wn a) hR (WS_ha hS') (by omega)
  have hat2 := fun {I' Q} (hS' : WS I' c wn) => m_wordAt (E := E) (Q := Q) (J := J) (I := ha I' (s2 c wn a)) (k := s2 c wn a) hR (WS_ha hS') (by omega)
  have i1 := wv_in (k := s1 c wn a) (lo := 12) (hi := 19) hS (by decide) (by decide)
  have i2 := wv_in (k := s2 c wn a) (lo := 0) (hi := 11) hS (by decide) (by decide)
  rw [show nI 12 = 12 from rfl, show nI 19 = 19 from rfl] at i1
  rw [show nI 0 = 0 from rfl, show nI 11 = 11 from rfl] at i2
  have second : ∀ v, tEv E 143 78 [.ref 56, .int (nI k)] [] (mS (ha (smS I k v (-4)) (s2 c wn a)) J R) Q = Q none (mS (ha (smS I k v (sNv c wn a)) (s3 c wn a)) J R) := by
    intro v
    have h2 := fun {Q} => hat2 (Q := Q) (I' := smS I k v (-4)) hS
    have u81 : va_up (smS I k v (-4)) 81 (upd (smS I k v (-4) 81) k (wv c wn (s2 c wn a))) = smS I k v (wv c wn (s2 c wn a)) := smS_81 I k v (-4) _
    simp only [e_143_78, e_143_79, e_143_80, e_143_83, e_143_86, e_143_87, e_143_88, e_143_91, e_143_94, rf_56_0 hR, rf_56_4 hR, rf_56_5 hR, rf_56_6 hR, rf_56_7 hR, rf_56_8 hR, rf_56_9 hR, rf_56_10 hR, rf_56_11 hR, rf_56_12 hR, rf_56_14 hR, rf_56_15 hR, rf_56_19 hR, rf_56_20 hR, rf_56_21 hR, rf_56_22 hR, rf_56_23 hR, rf_56_24 hR, rf_56_25 hR, rf_56_26 hR, rf_56_27 hR, rf_56_29 hR, rf_56_32 hR, rf_56_33 hR, rf_56_34 hR, rf_56_37 hR, rf_56_38 hR, kn_56, kn_57, kn_58, kn_59, kn_60, kn_61, kn_62, kn_63, kn_64, kn_65, kn_66, kn_67, kn_68, kn_69, kn_70, kn_71, kn_72, kn_73, kn_74, kn_75, kn_76, kn_77, kn_78, kn_79, kn_80, kn_81, kn_82, kn_83, ln_57, ln_58, ln_59, ln_60, ln_61, ln_62, ln_63, ln_64, ln_65, ln_66, ln_67, ln_68, ln_69, ln_70, ln_71, ln_72, ln_73, ln_74, ln_75, ln_76, ln_77, ln_78, ln_79, ln_80, ln_81, ln_82, ln_83, va_rf_some, push_s, push_n, nb0, nb1, nbb, Nat.reduceLT, ha_c78, ha_c79, ha_c80, ha_c81, ha_u79, ha_u80, ha_u81, ha_k30, ha_k35, ha_31, ha_set, h2, m_in_0_11, i2, b2i_0]
    unfold sNv s3 sNd
    by_cases q : wo c wn (s2 c wn a) ≤ 11
    · have q' : decide (0 ≤ wo c wn (s2 c wn a) ∧ wo c wn (s2 c wn a) ≤ 11) = true := decide_eq_true ⟨by omega, q⟩
      have e5 := wv_lt (show wo c wn (s2 c wn a) < 43 by omega)
      rw [q', if_neg (by decide)]
      simp only [e_143_97, e_143_98, e_143_101, e_143_102, e_143_103, e_143_104, e_143_107, e_143_110, e_143_111, e_143_112, e_143_113, e_143_116, e_143_117, e_143_118, e_143_121, rf_56_0 hR, rf_56_4 hR, rf_56_5 hR, rf_56_6 hR, rf_56_7 hR, rf_56_8 hR, rf_56_9 hR, rf_56_10 hR, rf_56_11 hR, rf_56_12 hR, rf_56_14 hR, rf_56_15 hR, rf_56_19 hR, rf_56_20 hR, rf_56_21 hR, rf_56_22 hR, rf_56_23 hR, rf_56_24 hR, rf_56_25 hR, rf_56_26 hR, rf_56_27 hR, rf_56_29 hR, rf_56_32 hR, rf_56_33 hR, rf_56_34 hR, rf_56_37 hR, rf_56_38 hR, kn_56, kn_57, kn_58, kn_59, kn_60, kn_61, kn_62, kn_63, kn_64, kn_65, kn_66, kn_67, kn_68, kn_69, kn_70, kn_71, kn_72, kn_73, kn_74, kn_75, kn_76, kn_77, kn_78, kn_79, kn_80, kn_81, kn_82, kn_83, ln_57, ln_58, ln_59, ln_60, ln_61, ln_62, ln_63, ln_64, ln_65, ln_66, ln_67, ln_68, ln_69, ln_70, ln_71, ln_72, ln_73, ln_74, ln_75, ln_76, ln_77, ln_78, ln_79, ln_80, ln_81, ln_82, ln_83, va_rf_some, push_s, push_n, nb0, nb1, nbb, Nat.reduceLT, ha_c78, ha_c79, ha_c80, ha_c81, ha_u79, ha_u80, ha_u81, ha_k30, ha_k35, ha_31, ha_set, h2, hix, hcl, smS_81, nI_1, decide_eq_true q, if_true, e5]
    · have q' : decide (0 ≤ wo c wn (s2 c wn a) ∧ wo c wn (s2 c wn a) ≤ 11) = false := decide_eq_false (by omega)
      rw [q', if_pos rfl]
      simp only [e_143_121, rf_56_0 hR, rf_56_4 hR, rf_56_5 hR, rf_56_6 hR, rf_56_7 hR, rf_56_8 hR, rf_56_9 hR, rf_56_10 hR, rf_56_11 hR, rf_56_12 hR, rf_56_14 hR, rf_56_15 hR, rf_56_19 hR, rf_56_20 hR, rf_56_21 hR, rf_56_22 hR, rf_56_23 hR, rf_56_24 hR, rf_56_25 hR, rf_56_26 hR, rf_56_27 hR, rf_56_29 hR, rf_56_32 hR, rf_56_33 hR, rf_56_34 hR, rf_56_37 hR, rf_56_38 hR, kn_56, kn_57, kn_58, kn_59, kn_60, kn_61, kn_62, kn_63, kn_64, kn_65, kn_66, kn_67, kn_68, kn_69, kn_70, kn_71, kn_72, kn_73, kn_74, kn_75, kn_76, kn_77, kn_78, kn_79, kn_80, kn_81, kn_82, kn_83, ln_57, ln_58, ln_59, ln_60, ln_61, ln_62, ln_63, ln_64, ln_65, ln_66, ln_67, ln_68, ln_69, ln_70, ln_71, ln_72, ln_73, ln_74, ln_75, ln_76, ln_77, ln_78, ln_79, ln_80, ln_81, ln_82, ln_83, va_rf_some, push_s, push_n, nb0, nb1, nbb, Nat.reduceLT, decide_eq_false q, Bool.false_eq_true, if_false]
  have h1 := fun {Q} => hat (Q := Q) (I' := smS I k (-4) (-4)) hS
  have es : ow c wn 36 a = s1 c wn a := rfl
  simp only [e_143_0, e_143_1, e_143_4, e_143_5, e_143_6, e_143_7, e_143_8, e_143_11, e_143_12, e_143_14, e_143_15, e_143_16, e_143_19, e_143_20, e_143_22, e_143_23, e_143_24, e_143_26, e_143_29, e_143_30, e_143_31, e_143_32, e_143_35, e_143_38, e_143_39, e_143_42, e_143_45, e_143_48, rf_56_0 hR, rf_56_4 hR, rf_56_5 hR, rf_56_6 hR, rf_56_7 hR, rf_56_8 hR, rf_56_9 hR, rf_56_10 hR, rf_56_11 hR, rf_56_12 hR, rf_56_14 hR, rf_56_15 hR, rf_56_19 hR, rf_56_20 hR, rf_56_21 hR, rf_56_22 hR, rf_56_23 hR, rf_56_24 hR, rf_56_25 hR, rf_56_26 hR, rf_56_27 hR, rf_56_29 hR, rf_56_32 hR, rf_56_33 hR, rf_56_34 hR, rf_56_37 hR, rf_56_38 hR, kn_56, kn_57, kn_58, kn_59, kn_60, kn_61, kn_62, kn_63, kn_64, kn_65, kn_66, kn_67, kn_68, kn_69, kn_70, kn_71, kn_72, kn_73, kn_74, kn_75, kn_76, kn_77, kn_78, kn_79, kn_80, kn_81, kn_82, kn_83, ln_57, ln_58, ln_59, ln_60, ln_61, ln_62, ln_63, ln_64, ln_65, ln_66, ln_67, ln_68, ln_69, ln_70, ln_71, ln_72, ln_73, ln_74, ln_75, ln_76, ln_77, ln_78, ln_79, ln_80, ln_81, ln_82, ln_83, va_rf_some, push_s, push_n, nb0, nb1, nbb, Nat.reduceLT, ha_c78, ha_c79, ha_c80, ha_c81, ha_u79, ha_u80, ha_u81, ha_k30, ha_k35, ha_31, ha_set, hix, hcl, n0, vu, Nat.reduceEqDiff, reduceIte, e1, hw, es, h1, m_in_12_19, i1, b2i_0]
  by_cases q : 12 ≤ wo c wn (s1 c wn a) ∧ wo c wn (s1 c wn a) ≤ 19
  · have e5 := wv_lt (show wo c wn (s1 c wn a) < 43 by omega)
    have e6 : nI (wo c wn (s1 c wn a)) - 12 = nI (wo c wn (s1 c wn a) - 12) := pk_sub (b := 12) q.1
    have q2 : sAd c wn a = true := decide_eq_true q
    have es2 : s2 c wn a = s1 c wn a + 1 := if_pos q2
    have ev : sAv c wn a = nI (wo c wn (s1 c wn a) - 12) := if_pos q2
    have := second (nI (wo c wn (s1 c wn a) - 12))
    rw [es2] at this
    rw [decide_eq_true q, if_neg (by decide)]
    simp only [e_143_51, e_143_52, e_143_55, e_143_56, e_143_57, e_143_58, e_143_61, e_143_64, e_143_66, e_143_67, e_143_68, e_143_69, e_143_70, e_143_73, e_143_74, e_143_75, rf_56_0 hR, rf_56_4 hR, rf_56_5 hR, rf_56_6 hR, rf_56_7 hR, rf_56_8 hR, rf_56_9 hR, rf_56_10 hR, rf_56_11 hR, rf_56_12 hR, rf_56_14 hR, rf_56_15 hR, rf_56_19 hR, rf_56_20 hR, rf_56_21 hR, rf_56_22 hR, rf_56_23 hR, rf_56_24 hR, rf_56_25 hR, rf_56_26 hR, rf_56_27 hR, rf_56_29 hR, rf_56_32 hR, rf_56_33 hR, rf_56_34 hR, rf_56_37 hR, rf_56_38 hR, kn_56, kn_57, kn_58, kn_59, kn_60, kn_61, kn_62, kn_63, kn_64, kn_65, kn_66, kn_67, kn_68, kn_69, kn_70, kn_71, kn_72, kn_73, kn_74, kn_75, kn_76, kn_77, kn_78, kn_79, kn_80, kn_81, kn_82, kn_83, ln_57, ln_58, ln_59, ln_60, ln_61, ln_62, ln_63, ln_64, ln_65, ln_66, ln_67, ln_68, ln_69, ln_70, ln_71, ln_72, ln_73, ln_74, ln_75, ln_76, ln_77, ln_78, ln_79, ln_80, ln_81, ln_82, ln_83, va_rf_some, push_s, push_n, nb0, nb1, nbb, Nat.reduceLT, ha_c78, ha_c79, ha_c80, ha_c81, ha_u79, ha_u80, ha_u81, ha_k30, ha_k35, ha_31, ha_set, h1, hix, hcl, smS_80, nI_1, e5, e6]
    rw [ev]
    exact this
  · have q2 : sAd c wn a = false := decide_eq_false q
    have es2 : s2 c wn a = s1 c wn a := if_neg (by rw [q2]; decide)
    have ev : sAv c wn a = -4 := if_neg (by rw [q2]; decide)
    have := second (-4)
    rw [es2] at this
    rw [decide_eq_false q, if_pos rfl, ev]
    exact this
def phOk (c : Nat) (wn : Nat → Nat) (a : Nat) : Bool := decide (wo c wn a = 37) || sNd c wn a
def phP (c : Nat) (wn : Nat → Nat) (a : Nat) : Nat := if wo c wn a = 37 then a + 1 else s3 c wn a
def phS (I : Nat → Nat → Int32) (k c : Nat) (wn : Nat → Nat) (a : Nat) : Nat → Nat → Int32 := if wo c wn a = 37 then va_up I 79 (upd (I 79) k 1) else smS I k (sAv c wn a) (sNv c wn a)
theorem phP_le (c : Nat) (wn : Nat → Nat) (a : Nat) : phP c wn a ≤ a + 3 := by
  have := s_le c wn a
  unfold phP
  split <;> omega
theorem WS_ph {k : Nat} (h : WS I c wn) : WS (phS I k c wn a) c wn := by
  unfold phS
  split
  · exact h
  · exact h
theorem m_readsPhrase (hR : tRef h d R) (hS : WS I c wn) (ha' : a < 900) {k : Nat} (hk : k < 2) : tEv E 144 0 [.ref 56, .int (nI k)] [] (mS (ha I a) J R) Q = Q (some (b2i (phOk c wn a))) (mS (ha (phS I k c wn a) (phP c wn a)) J R) := by
  have hix := inb_nI (j := k) (n := 2) (by omega) (by decide)
  have hcl := nI_cl (n := k) (by omega)
  have n1 : vp_nar .boolean 1 = 1 := by decide
  have hw := fun {Q} => m_isWord (E := E) (Q := Q) (J := J) hR hS (show a < 1000 by omega) (x := 37) (by decide)
  rw [show nI 37 = 37 from rfl] at hw
  unfold phOk phP phS
  by_cases q : wo c wn a = 37
  · have ho : ow c wn 37 a = a + 1 := if_pos q
    simp only [e_144_0, e_144_1, e_144_3, e_144_6, e_144_9, e_144_10, e_144_13, e_144_14, e_144_15, e_144_16, e_144_17, e_144_18, e_144_19, e_144_20, e_144_23, e_144_24, e_144_27, e_144_28, e_144_29, e_144_31, e_144_34, e_144_35, e_144_38, e_144_39, rf_56_0 hR, rf_56_4 hR, rf_56_5 hR, rf_56_6 hR, rf_56_7 hR, rf_56_8 hR, rf_56_9 hR, rf_56_10 hR, rf_56_11 hR, rf_56_12 hR, rf_56_14 hR, rf_56_15 hR, rf_56_19 hR, rf_56_20 hR, rf_56_21 hR, rf_56_22 hR, rf_56_23 hR, rf_56_24 hR, rf_56_25 hR, rf_56_26 hR, rf_56_27 hR, rf_56_29 hR, rf_56_32 hR, rf_56_33 hR, rf_56_34 hR, rf_56_37 hR, rf_56_38 hR, kn_56, kn_57, kn_58, kn_59, kn_60, kn_61, kn_62, kn_63, kn_64, kn_65, kn_66, kn_67, kn_68, kn_69, kn_70, kn_71, kn_72, kn_73, kn_74, kn_75, kn_76, kn_77, kn_78, kn_79, kn_80, kn_81, kn_82, kn_83, ln_57, ln_58, ln_59, ln_60, ln_61, ln_62, ln_63, ln_64, ln_65, ln_66, ln_67, ln_68, ln_69, ln_70, ln_71, ln_72, ln_73, ln_74, ln_75, ln_76, ln_77, ln_78, ln_79, ln_80, ln_81, ln_82, ln_83, va_rf_some, push_s, push_n, nb0, nb1, nbb, Nat.reduceLT, ha_c78, ha_c79, ha_c80, ha_c81, ha_u79, ha_u80, ha_u81, ha_k30, ha_k35, ha_31, ha_set, hw, q, decide_true, b2i_0, Bool.true_eq_false, if_false, ho, hix, hcl, n1, if_true, Bool.true_or]
    rfl
  · have ho : ow c wn 37 a = a := if_neg q
    have hs := fun {Q} => m_readsSome (E := E) (Q := Q) (J := J) hR hS ha' hk
    have e81 : smS I k (sAv c wn a) (sNv c wn a) 81 k = sNv c wn a := by
      unfold smS
      rw [vu_eq, ud, if_pos rfl]
    simp only [e_144_0, e_144_1, e_144_3, e_144_6, e_144_9, e_144_10, e_144_13, e_144_14, e_144_15, e_144_16, e_144_17, e_144_18, e_144_19, e_144_20, e_144_23, e_144_24, e_144_27, e_144_28, e_144_29, e_144_31, e_144_34, e_144_35, e_144_38, e_144_39, rf_56_0 hR, rf_56_4 hR, rf_56_5 hR, rf_56_6 hR, rf_56_7 hR, rf_56_8 hR, rf_56_9 hR, rf_56_10 hR, rf_56_11 hR, rf_56_12 hR, rf_56_14 hR, rf_56_15 hR, rf_56_19 hR, rf_56_20 hR, rf_56_21 hR, rf_56_22 hR, rf_56_23 hR, rf_56_24 hR, rf_56_25 hR, rf_56_26 hR, rf_56_27 hR, rf_56_29 hR, rf_56_32 hR, rf_56_33 hR, rf_56_34 hR, rf_56_37 hR, rf_56_38 hR, kn_56, kn_57, kn_58, kn_59, kn_60, kn_61, kn_62, kn_63, kn_64, kn_65, kn_66, kn_67, kn_68, kn_69, kn_70, kn_71, kn_72, kn_73, kn_74, kn_75, kn_76, kn_77, kn_78, kn_79, kn_80, kn_81, kn_82, kn_83, ln_57, ln_58, ln_59, ln_60, ln_61, ln_62, ln_63, ln_64, ln_65, ln_66, ln_67, ln_68, ln_69, ln_70, ln_71, ln_72, ln_73, ln_74, ln_75, ln_76, ln_77, ln_78, ln_79, ln_80, ln_81, ln_82, ln_83, va_rf_some, push_s, push_n, nb0, nb1, nbb, Nat.reduceLT, ha_c78, ha_c79, ha_c80, ha_c81, ha_u79, ha_u80, ha_u81, ha_k30, ha_k35, ha_31, ha_set, hw, q, decide_false, b2i_0, if_false, ho, hix, hcl, if_true, Bool.false_or, hs, e81]
    unfold sNv
    cases q2 : sNd c wn a with
    | false =>
      simp only [Bool.false_eq_true, if_false, if_true]
      rfl
    | true =>
      have hlt : wo c wn (s2 c wn a) ≤ 11 := of_decide_eq_true q2
      have e4 : (nI (wo c wn (s2 c wn a)) = -4) = False := eq_false (nI_n4 (by omega))
      simp only [if_true, e4, if_false]
      rfl
/-- what the reader of sentences may change -/
def frS (I I' : Nat → Nat → Int32) : Prop := (∀ k, k ≠ 56 → k ≠ 79 → k ≠ 80 → k ≠ 81 → I' k = I k) ∧ ∀ k, k ≠ 31 → I' 56 k = I 56 k
theorem frS_refl (I : Nat → Nat → Int32) : frS I I := ⟨fun _ _ _ _ _ => rfl, fun _ _ => rfl⟩
theorem frS_trans {I I' I'' : Nat → Nat → Int32} (h : frS I I') (g : frS I' I'') : frS I I'' := ⟨fun k a b c e => (g.1 k a b c e).trans (h.1 k a b c e), fun k a => (g.2 k a).trans (h.2 k a)⟩
theorem frS_ha {I I' : Nat → Nat → Int32} {p : Nat} (h : frS I I') : frS I (ha I' p) :=
  ⟨fun k a b c e => by unfold ha; rw [vu, if_neg a]; exact h.1 k a b c e, fun k a => by
    unfold ha
    rw [vu, if_pos rfl, ud, if_neg a]
    exact h.2 k a⟩
theorem frS_up {I I' : Nat → Nat → Int32} {x : Nat} {f : Nat → Int32} (h : frS I I') (hx : x = 79 ∨ x = 80 ∨ x = 81) : frS I (va_up I' x f) :=
  ⟨fun k a b c e => by rw [vu, if_neg (by omega)]; exact h.1 k a b c e, fun k a => by rw [vu, if_neg (by omega)]; exact h.2 k a⟩
theorem frS_sm {I I' : Nat → Nat → Int32} {k : Nat} {x y : Int32} (h : frS I I') : frS I (smS I' k x y) := frS_up (frS_up (frS_up h (by decide)) (by decide)) (by decide)
theorem frS_ph {I I' : Nat → Nat → Int32} {k : Nat} (h : frS I I') : frS I (phS I' k c wn a) := by
  unfold phS
  split
  · exact frS_up h (by decide)
  · exact frS_sm h
theorem m_withOne (hR : tRef h d R) (hS : WS I c wn) (ha' : a < 800) {x : Int32} : tEv E 146 0 [.ref 56, .int x] [] (mS (ha I a) J R) Q = Q (some (if (phOk c wn a && decide (phP c wn a = c)) = true then x else -4)) (mS (ha (phS I 0 c wn a) (phP c wn a)) J R) := by
  have hle := phP_le c wn a
  have hp := fun {Q} => m_readsPhrase (E := E) (Q := Q) (J := J) hR hS (show a < 900 by omega) (k := 0) (by decide)
  rw [show nI 0 = 0 from rfl] at hp
  have he := fun {Q} => m_isEnd (E := E) (Q := Q) (J := J) (I := phS I 0 c wn a) (a := phP c wn a) hR (WS_ph hS) (by omega)
  simp only [e_146_0, e_146_1, e_146_2, e_146_5, e_146_8, e_146_9, e_146_12, e_146_15, e_146_16, e_146_19, e_146_21, rf_56_0 hR, rf_56_4 hR, rf_56_5 hR, rf_56_6 hR, rf_56_7 hR, rf_56_8 hR, rf_56_9 hR, rf_56_10 hR, rf_56_11 hR, rf_56_12 hR, rf_56_14 hR, rf_56_15 hR, rf_56_19 hR, rf_56_20 hR, rf_56_21 hR, rf_56_22 hR, rf_56_23 hR, rf_56_24 hR, rf_56_25 hR, rf_56_26 hR, rf_56_27 hR, rf_56_29 hR, rf_56_32 hR, rf_56_33 hR, rf_56_34 hR, rf_56_37 hR, rf_56_38 hR, kn_56, kn_57, kn_58, kn_59, kn_60, kn_61, kn_62, kn_63, kn_64, kn_65, kn_66, kn_67, kn_68, kn_69, kn_70, kn_71, kn_72, kn_73, kn_74, kn_75, kn_76, kn_77, kn_78, kn_79, kn_80, kn_81, kn_82, kn_83, ln_57, ln_58, ln_59, ln_60, ln_61, ln_62, ln_63, ln_64, ln_65, ln_66, ln_67, ln_68, ln_69, ln_70, ln_71, ln_72, ln_73, ln_74, ln_75, ln_76, ln_77, ln_78, ln_79, ln_80, ln_81, ln_82, ln_83, va_rf_some, push_s, push_n, nb0, nb1, nbb, Nat.reduceLT, hp, b2i_0, he]
  cases phOk c wn a <;> by_cases q : phP c wn a = c <;> simp [q]
def t2Ok (c : Nat) (wn : Nat → Nat) (b a : Nat) : Bool := phOk c wn a && decide (wo c wn (phP c wn a) = b) && phOk c wn (phP c wn a + 1) && decide (phP c wn (phP c wn a + 1) = c)
theorem m_withTwo_1 (hR : tRef h d R) (hS : WS I c wn) (ha' : a < 700) {x : Int32} (hok : t2Ok c wn 35 a = true) : tEv E 149 0 [.ref 56, .int x, .int 35] [] (mS (ha I a) J R) Q = Q (some x) (mS (ha (phS (phS I 0 c wn a) 1 c wn (phP c wn a + 1)) c) J R) := by
  have hle := phP_le c wn a
  have hle2 := phP_le c wn (phP c wn a + 1)
  unfold t2Ok at hok
  simp only [Bool.and_eq_true, decide_eq_true_eq] at hok
  obtain ⟨⟨⟨k1, k2⟩, k3⟩, k4⟩ := hok
  have hp := fun {Q} => m_readsPhrase (E := E) (Q := Q) (J := J) hR hS (show a < 900 by omega) (k := 0) (by decide)
  have hp2 := fun {Q} => m_readsPhrase (E := E) (Q := Q) (J := J) (I := phS I 0 c wn a) (a := phP c wn a + 1) hR (WS_ph hS) (by omega) (k := 1) (by decide)
  have hw := fun {Q} => m_isWord (E := E) (Q := Q) (J := J) (I := phS I 0 c wn a) (a := phP c wn a) hR (WS_ph hS) (by omega) (x := 35) (by decide)
  have he := fun {Q} => m_isEnd (E := E) (Q := Q) (J := J) (I := phS (phS I 0 c wn a) 1 c wn (phP c wn a + 1)) (a := phP c wn (phP c wn a + 1)) hR (WS_ph (WS_ph hS)) (by omega)
  rw [show nI 0 = 0 from rfl] at hp
  rw [show nI 1 = 1 from rfl] at hp2
  rw [show nI 35 = 35 from rfl] at hw
  have ho : ow c wn 35 (phP c wn a) = phP c wn a + 1 := if_pos k2
  rw [k4] at hp2 he
  simp only [e_149_0, e_149_1, e_149_2, e_149_5, e_149_8, e_149_9, e_149_10, e_149_13, e_149_16, e_149_17, e_149_18, e_149_21, e_149_24, e_149_25, e_149_28, e_149_31, e_149_32, e_149_35, e_149_37, rf_56_0 hR, rf_56_4 hR, rf_56_5 hR, rf_56_6 hR, rf_56_7 hR, rf_56_8 hR, rf_56_9 hR, rf_56_10 hR, rf_56_11 hR, rf_56_12 hR, rf_56_14 hR, rf_56_15 hR, rf_56_19 hR, rf_56_20 hR, rf_56_21 hR, rf_56_22 hR, rf_56_23 hR, rf_56_24 hR, rf_56_25 hR, rf_56_26 hR, rf_56_27 hR, rf_56_29 hR, rf_56_32 hR, rf_56_33 hR, rf_56_34 hR, rf_56_37 hR, rf_56_38 hR, kn_56, kn_57, kn_58, kn_59, kn_60, kn_61, kn_62, kn_63, kn_64, kn_65, kn_66, kn_67, kn_68, kn_69, kn_70, kn_71, kn_72, kn_73, kn_74, kn_75, kn_76, kn_77, kn_78, kn_79, kn_80, kn_81, kn_82, kn_83, ln_57, ln_58, ln_59, ln_60, ln_61, ln_62, ln_63, ln_64, ln_65, ln_66, ln_67, ln_68, ln_69, ln_70, ln_71, ln_72, ln_73, ln_74, ln_75, ln_76, ln_77, ln_78, ln_79, ln_80, ln_81, ln_82, ln_83, va_rf_some, push_s, push_n, nb0, nb1, nbb, Nat.reduceLT, hp, k1, b2i_0, Bool.true_eq_false, if_false, hw, k2, decide_true, ho, hp2, k3, he]
theorem m_withTwo_0 (hR : tRef h d R) (hS : WS I c wn) (ha' : a < 700) {x : Int32} (hok : t2Ok c wn 35 a = false) : ∃ I', frS I I' ∧ ∀ Q, tEv E 149 0 [.ref 56, .int x, .int 35] [] (mS (ha I a) J R) Q = Q (some (-4)) (mS I' J R) := by
  have hle := phP_le c wn a
  have hle2 := phP_le c wn (phP c wn a + 1)
  have hp := fun {Q} => m_readsPhrase (E := E) (Q := Q) (J := J) hR hS (show a < 900 by omega) (k := 0) (by decide)
  have hp2 := fun {Q} => m_readsPhrase (E := E) (Q := Q) (J := J) (I := phS I 0 c wn a) (a := phP c wn a + 1) hR (WS_ph hS) (by omega) (k := 1) (by decide)
  have hw := fun {Q} => m_isWord (E := E) (Q := Q) (J := J) (I := phS I 0 c wn a) (a := phP c wn a) hR (WS_ph hS) (by omega) (x := 35) (by decide)
  have he := fun {Q} => m_isEnd (E := E) (Q := Q) (J := J) (I := phS (phS I 0 c wn a) 1 c wn (phP c wn a + 1)) (a := phP c wn (phP c wn a + 1)) hR (WS_ph (WS_ph hS)) (by omega)
  rw [show nI 0 = 0 from rfl] at hp
  rw [show nI 1 = 1 from rfl] at hp2
  rw [show nI 35 = 35 from rfl] at hw
  unfold t2Ok at hok
  cases k1 : phOk c wn a with
  | false =>
    refine ⟨_, frS_ha (p := phP c wn a) (frS_ph (k := 0) (c := c) (wn := wn) (a := a) (frS_refl I)), fun Q => ?_⟩
    simp only [e_149_0, e_149_1, e_149_2, e_149_5, e_149_8, e_149_9, e_149_10, e_149_13, e_149_16, e_149_17, e_149_18, e_149_21, e_149_24, e_149_25, e_149_28, e_149_31, e_149_32, e_149_35, e_149_37, rf_56_0 hR, rf_56_4 hR, rf_56_5 hR, rf_56_6 hR, rf_56_7 hR, rf_56_8 hR, rf_56_9 hR, rf_56_10 hR, rf_56_11 hR, rf_56_12 hR, rf_56_14 hR, rf_56_15 hR, rf_56_19 hR, rf_56_20 hR, rf_56_21 hR, rf_56_22 hR, rf_56_23 hR, rf_56_24 hR, rf_56_25 hR, rf_56_26 hR, rf_56_27 hR, rf_56_29 hR, rf_56_32 hR, rf_56_33 hR, rf_56_34 hR, rf_56_37 hR, rf_56_38 hR, kn_56, kn_57, kn_58, kn_59, kn_60, kn_61, kn_62, kn_63, kn_64, kn_65, kn_66, kn_67, kn_68, kn_69, kn_70, kn_71, kn_72, kn_73, kn_74, kn_75, kn_76, kn_77, kn_78, kn_79, kn_80, kn_81, kn_82, kn_83, ln_57, ln_58, ln_59, ln_60, ln_61, ln_62, ln_63, ln_64, ln_65, ln_66, ln_67, ln_68, ln_69, ln_70, ln_71, ln_72, ln_73, ln_74, ln_75, ln_76, ln_77, ln_78, ln_79, ln_80, ln_81, ln_82, ln_83, va_rf_some, push_s, push_n, nb0, nb1, nbb, Nat.reduceLT, hp, k1, b2i_0, if_true]
  | true =>
    by_cases k2 : wo c wn (phP c wn a) = 35
    · have ho : ow c wn 35 (phP c wn a) = phP c wn a + 1 := if_pos k2
      have f2 : frS I (ha (phS (phS I 0 c wn a) 1 c wn (phP c wn a + 1)) (phP c wn (phP c wn a + 1))) := frS_ha (frS_ph (frS_ph (frS_refl I)))
      refine ⟨_, f2, fun Q => ?_⟩
      cases k3 : phOk c wn (phP c wn a + 1) with
      | false => simp only [e_149_0, e_149_1, e_149_2, e_149_5, e_149_8, e_149_9, e_149_10, e_149_13, e_149_16, e_149_17, e_149_18, e_149_21, e_149_24, e_149_25, e_149_28, e_149_31, e_149_32, e_149_35, e_149_37, rf_56_0 hR, rf_56_4 hR, rf_56_5 hR, rf_56_6 hR, rf_56_7 hR, rf_56_8 hR, rf_56_9 hR, rf_56_10 hR, rf_56_11 hR, rf_56_12 hR, rf_56_14 hR, rf_56_15 hR, rf_56_19 hR, rf_56_20 hR, rf_56_21 hR, rf_56_22 hR, rf_56_23 hR, rf_56_24 hR, rf_56_25 hR, rf_56_26 hR, rf_56_27 hR, rf_56_29 hR, rf_56_32 hR, rf_56_33 hR, rf_56_34 hR, rf_56_37 hR, rf_56_38 hR, kn_56, kn_57, kn_58, kn_59, kn_60, kn_61, kn_62, kn_63, kn_64, kn_65, kn_66, kn_67, kn_68, kn_69, kn_70, kn_71, kn_72, kn_73, kn_74, kn_75, kn_76, kn_77, kn_78, kn_79, kn_80, kn_81, kn_82, kn_83, ln_57, ln_58, ln_59, ln_60, ln_61, ln_62, ln_63, ln_64, ln_65, ln_66, ln_67, ln_68, ln_69, ln_70, ln_71, ln_72, ln_73, ln_74, ln_75, ln_76, ln_77, ln_78, ln_79, ln_80, ln_81, ln_82, ln_83, va_rf_some, push_s, push_n, nb0, nb1, nbb, Nat.reduceLT, hp, k1, b2i_0, Bool.true_eq_false, if_false, hw, k2, decide_true, ho, hp2, k3, if_true]
      | true =>
        have k4 : ¬ phP c wn (phP c wn a + 1) = c := by
          intro e
          rw [k1, decide_eq_true k2, k3, decide_eq_true e] at hok
          cases hok
        simp only [e_149_0, e_149_1, e_149_2, e_149_5, e_149_8, e_149_9, e_149_10, e_149_13, e_149_16, e_149_17, e_149_18, e_149_21, e_149_24, e_149_25, e_149_28, e_149_31, e_149_32, e_149_35, e_149_37, rf_56_0 hR, rf_56_4 hR, rf_56_5 hR, rf_56_6 hR, rf_56_7 hR, rf_56_8 hR, rf_56_9 hR, rf_56_10 hR, rf_56_11 hR, rf_56_12 hR, rf_56_14 hR, rf_56_15 hR, rf_56_19 hR, rf_56_20 hR, rf_56_21 hR, rf_56_22 hR, rf_56_23 hR, rf_56_24 hR, rf_56_25 hR, rf_56_26 hR, rf_56_27 hR, rf_56_29 hR, rf_56_32 hR, rf_56_33 hR, rf_56_34 hR, rf_56_37 hR, rf_56_38 hR, kn_56, kn_57, kn_58, kn_59, kn_60, kn_61, kn_62, kn_63, kn_64, kn_65, kn_66, kn_67, kn_68, kn_69, kn_70, kn_71, kn_72, kn_73, kn_74, kn_75, kn_76, kn_77, kn_78, kn_79, kn_80, kn_81, kn_82, kn_83, ln_57, ln_58, ln_59, ln_60, ln_61, ln_62, ln_63, ln_64, ln_65, ln_66, ln_67, ln_68, ln_69, ln_70, ln_71, ln_72, ln_73, ln_74, ln_75, ln_76, ln_77, ln_78, ln_79, ln_80, ln_81, ln_82, ln_83, va_rf_some, push_s, push_n, nb0, nb1, nbb, Nat.reduceLT, hp, k1, b2i_0, Bool.true_eq_false, if_false, hw, k2, decide_true, ho, hp2, k3, he, k4, decide_false, if_true]
    · have ho : ow c wn 35 (phP c wn a) = phP c wn a := if_neg k2
      refine ⟨_, frS_ha (p := phP c wn a) (frS_ph (k := 0) (c := c) (wn := wn) (a := a) (frS_refl I)), fun Q => ?_⟩
      simp only [e_149_0, e_149_1, e_149_2, e_149_5, e_149_8, e_149_9, e_149_10, e_149_13, e_149_16, e_149_17, e_149_18, e_149_21, e_149_24, e_149_25, e_149_28, e_149_31, e_149_32, e_149_35, e_149_37, rf_56_0 hR, rf_56_4 hR, rf_56_5 hR, rf_56_6 hR, rf_56_7 hR, rf_56_8 hR, rf_56_9 hR, rf_56_10 hR, rf_56_11 hR, rf_56_12 hR, rf_56_14 hR, rf_56_15 hR, rf_56_19 hR, rf_56_20 hR, rf_56_21 hR, rf_56_22 hR, rf_56_23 hR, rf_56_24 hR, rf_56_25 hR, rf_56_26 hR, rf_56_27 hR, rf_56_29 hR, rf_56_32 hR, rf_56_33 hR, rf_56_34 hR, rf_56_37 hR, rf_56_38 hR, kn_56, kn_57, kn_58, kn_59, kn_60, kn_61, kn_62, kn_63, kn_64, kn_65, kn_66, kn_67, kn_68, kn_69, kn_70, kn_71, kn_72, kn_73, kn_74, kn_75, kn_76, kn_77, kn_78, kn_79, kn_80, kn_81, kn_82, kn_83, ln_57, ln_58, ln_59, ln_60, ln_61, ln_62, ln_63, ln_64, ln_65, ln_66, ln_67, ln_68, ln_69, ln_70, ln_71, ln_72, ln_73, ln_74, ln_75, ln_76, ln_77, ln_78, ln_79, ln_80, ln_81, ln_82, ln_83, va_rf_some, push_s, push_n, nb0, nb1, nbb, Nat.reduceLT, hp, k1, b2i_0, Bool.true_eq_false, if_false, hw, k2, decide_false, ho, if_true]
end SN
