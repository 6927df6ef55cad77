/-! ===== the model: a way is read ===== -/
def wdOk (c : Nat) : Bool := decide (c = 110) || decide (c = 115) || decide (c = 101) || decide (c = 119)
def wdN (c : Nat) : Nat := if c = 110 then 0 else if c = 115 then 1 else if c = 101 then 2 else 3
def wb (x : Nat) : Nat := if x % 2 = 0 then x + 1 else x - 1
theorem wdN_lt (c : Nat) : wdN c < 4 := by
  unfold wdN
  repeat' split
  all_goals decide
theorem wb_lt {x : Nat} (h : x < 4) : wb x < 4 := by
  unfold wb
  split <;> omega
theorem wb_xor : ∀ x, x < 4 → nI x ^^^ 1 = nI (wb x) := by decide
def wyA (n : Nat) (tc : Nat → Nat) (p : Nat) : Nat := 4 * dv n tc p + wdN (cc n tc (p + 2))
def wyB (n : Nat) (tc : Nat → Nat) (p : Nat) : Nat := 4 * dv n tc (p + 1) + wb (wdN (cc n tc (p + 2)))
def drOk (I : Nat → Nat → Int32) (n : Nat) (tc : Nat → Nat) (nt a p : Nat) : Bool :=
  thOk n tc nt p && decide (I 72 (thV n tc p) = nI a) && decide (I 74 (thV n tc p) &&& 15 = 12) && !bt (I 56 28) (thV n tc p)
def wyOk (I : Nat → Nat → Int32) (n : Nat) (tc : Nat → Nat) (nr nt p : Nat) : Bool :=
  rmOk n tc nr p && rmOk n tc nr (p + 1) && !decide (dv n tc p = dv n tc (p + 1)) && wdOk (cc n tc (p + 2)) && decide (I 76 (wyA n tc p) = -4) && decide (I 76 (wyB n tc p) = -4) && (!dg n tc (p + 3) || drOk I n tc nt (dv n tc p) (p + 3))
def wyD (n : Nat) (tc : Nat → Nat) (p : Nat) : Int32 := if dg n tc (p + 3) = true then nI (thV n tc (p + 3)) else -4
def wyP (n : Nat) (tc : Nat → Nat) (p : Nat) : Nat := if dg n tc (p + 3) = true then p + 5 else p + 3
def rdWy (I : Nat → Nat → Int32) (n : Nat) (tc : Nat → Nat) (p : Nat) : Nat → Nat → Int32 :=
  va_up (va_up (if dg n tc (p + 3) = true then va_up I 56 (upd (I 56) 28 (I 56 28 ||| (1 <<< (nI (thV n tc (p + 3)) &&& 31)))) else I) 76 (upd (upd (I 76) (wyA n tc p) (nI (dv n tc (p + 1)))) (wyB n tc p) (nI (dv n tc p)))) 77 (upd (upd (I 77) (wyA n tc p) (wyD n tc p)) (wyB n tc p) (wyD n tc p))
section RY
variable {E : tm_Env} {Q : Option Int32 → tm_St → Prop} {I : Nat → Nat → Int32} {J : Nat → Nat → Int64} {R : Nat → Nat → Option Nat} {h d : Nat} {nr nt n p : Nat} {tc : Nat → Nat}
theorem m_wind {S : tm_St} {c : Nat} (hc : c < 1000) : tEv E 57 0 [.int (nI c)] [] S Q = Q (some (if wdOk c = true then nI (wdN c) else -4)) S := by
  have e1 : (nI c = 110) = (c = 110) := propext (nI_eq (b := 110) (by omega) (by omega))
  have e2 : (nI c = 115) = (c = 115) := propext (nI_eq (b := 115) (by omega) (by omega))
  have e3 : (nI c = 101) = (c = 101) := propext (nI_eq (b := 101) (by omega) (by omega))
  have e4 : (nI c = 119) = (c = 119) := propext (nI_eq (b := 119) (by omega) (by omega))
  simp only [e_57_0, e_57_1, e_57_3, e_57_6, e_57_7, e_57_10, e_57_11, e_57_13, e_57_16, e_57_17, e_57_20, e_57_21, e_57_23, e_57_26, e_57_27, e_57_30, e_57_31, e_57_33, e_57_36, e_57_37, e_57_40, e_57_42, va_rf_some, push_s, push_n, nb0, nb1, nbb, Nat.reduceLT, e1, e2, e3, e4]
  unfold wdOk wdN
  by_cases c1 : c = 110
  · simp [c1]; rfl
  · by_cases c2 : c = 115
    · simp [c2]; rfl
    · by_cases c3 : c = 101
      · simp [c3]; rfl
      · by_cases c4 : c = 119
        · simp [c4]; rfl
        · simp [c1, c2, c3, c4]
theorem m_wind_4 {S : tm_St} : tEv E 57 0 [.int (-4)] [] S Q = Q (some (-4)) S := by
  have e1 : ((-4 : Int32) = 110) = False := eq_false (by decide)
  have e2 : ((-4 : Int32) = 115) = False := eq_false (by decide)
  have e3 : ((-4 : Int32) = 101) = False := eq_false (by decide)
  have e4 : ((-4 : Int32) = 119) = False := eq_false (by decide)
  simp only [e_57_0, e_57_1, e_57_3, e_57_6, e_57_7, e_57_10, e_57_11, e_57_13, e_57_16, e_57_17, e_57_20, e_57_21, e_57_23, e_57_26, e_57_27, e_57_30, e_57_31, e_57_33, e_57_36, e_57_37, e_57_40, e_57_42, va_rf_some, push_s, push_n, nb0, nb1, nbb, Nat.reduceLT, e1, e2, e3, e4, if_false]
def lv (n : Nat) (tc : Nat → Nat) (p : Nat) : Int32 := if p < n then nI (tc p) else -4
theorem m_lv (hR : tRef h d R) (hT : TX I n tc) (hp : p < 1000) : tEv E 49 0 [.ref 56, .int (nI p)] [] (mS I J R) Q = Q (some (lv n tc p)) (mS I J R) := m_letterAt hR hT hp
theorem m_windL {S : tm_St} (hT : TX I n tc) : tEv E 57 0 [.int (lv n tc p)] [] S Q = Q (some (if wdOk (cc n tc p) = true then nI (wdN (cc n tc p)) else -4)) S := by
  unfold cc lv
  by_cases c : p < n
  · rw [if_pos c, if_pos c]
    have := (hT.2.2 p c).2.2
    exact m_wind (by omega)
  · rw [if_neg c, if_neg c]
    exact m_wind_4
theorem m_inL {S : tm_St} (hT : TX I n tc) : tEv E 47 0 [.long (lv n tc p).toInt64, tm_dum, .long 48, tm_dum, .long 57, tm_dum] [] S Q = Q (some (b2i (dg n tc p))) S := by
  unfold dg cc lv
  by_cases c : p < n
  · rw [if_pos c, if_pos c]
    have := (hT.2.2 p c).2.2
    exact m_inN_48_57 (by omega)
  · rw [if_neg c, if_neg c]
    exact m_in_48_57
/-- up to the ways that are there -/
theorem m_rw1 (hR : tRef h d R) (hT : TX I n tc) (hp : p < 800) (h1 : I 56 17 = nI nr) (hn : nr ≤ 6) (k1 : rmOk n tc nr p = true) (k2 : rmOk n tc nr (p + 1) = true) (k3 : ¬ dv n tc p = dv n tc (p + 1)) (k4 : wdOk (cc n tc (p + 2)) = true) : tEv E 59 0 [.ref 56, tm_dum, tm_dum, tm_dum, tm_dum, tm_dum, tm_dum] [] (mS (hr I p) J R) Q = if I 76 (wyA n tc p) = -4 then (if I 76 (wyB n tc p) = -4 then tEv E 59 100 [.ref 56, .int (nI (dv n tc p)), .int (nI (dv n tc (p + 1))), .int (nI (wdN (cc n tc (p + 2)))), .int (nI (wb (wdN (cc n tc (p + 2))))), tm_dum, tm_dum] [] (mS (hr I (p + 3)) J R) Q else Q (some 0) (mS (hr I (p + 3)) J R)) else Q (some 0) (mS (hr I (p + 3)) J R) := by
  have j1 := k1
  have j2 := k2
  unfold rmOk at j1 j2
  simp only [Bool.and_eq_true, decide_eq_true_eq] at j1 j2
  have q1 : rmP n tc p = p + 1 := if_pos j1.1
  have q2 : rmP n tc (p + 1) = p + 2 := if_pos j2.1
  have e1 : (nI (dv n tc p) = -4) = False := eq_false (nI_n4 (by omega))
  have e2 : (nI (dv n tc (p + 1)) = -4) = False := eq_false (nI_n4 (by omega))
  have hw := wdN_lt (cc n tc (p + 2))
  have hwb := wb_lt hw
  have e3 : (nI (wdN (cc n tc (p + 2))) = -4) = False := eq_false (nI_n4 (by omega))
  have e4 : (nI (dv n tc p) = nI (dv n tc (p + 1))) = False := eq_false (fun e => k3 ((nI_eq (by omega) (by omega)).mp e))
  have ex := wb_xor _ hw
  have ea : (4 : Int32) * nI (dv n tc p) + nI (wdN (cc n tc (p + 2))) = nI (wyA n tc p) := by rw [show (4 : Int32) = nI 4 from rfl, nI_mul, nI_add]; rfl
  have eb : (4 : Int32) * nI (dv n tc (p + 1)) + nI (wb (wdN (cc n tc (p + 2)))) = nI (wyB n tc p) := by rw [show (4 : Int32) = nI 4 from rfl, nI_mul, nI_add]; rfl
  have la : wyA n tc p < 24 := by unfold wyA; omega
  have lb : wyB n tc p < 24 := by unfold wyB; omega
  have ia := inb_nI (j := wyA n tc p) (n := 24) la (by decide)
  have ib := inb_nI (j := wyB n tc p) (n := 24) lb (by decide)
  have ca := nI_cl (n := wyA n tc p) (by omega)
  have cb := nI_cl (n := wyB n tc p) (by omega)
  simp only [e_59_0, e_59_1, e_59_4, e_59_5, e_59_6, e_59_8, e_59_11, e_59_13, e_59_16, e_59_17, e_59_20, e_59_21, e_59_22, e_59_23, e_59_26, e_59_29, e_59_32, e_59_33, e_59_34, e_59_36, e_59_39, e_59_40, e_59_41, e_59_44, e_59_45, e_59_47, e_59_50, e_59_51, e_59_52, e_59_53, e_59_54, e_59_57, e_59_58, e_59_59, e_59_62, e_59_63, e_59_64, e_59_65, e_59_67, e_59_68, e_59_71, e_59_72, e_59_73, e_59_74, e_59_75, e_59_76, e_59_77, e_59_79, e_59_82, e_59_83, e_59_86, e_59_87, e_59_88, e_59_89, e_59_91, e_59_92, e_59_93, e_59_95, e_59_98, e_59_99, rf_56_0 hR, rf_56_4 hR, rf_56_5 hR, rf_56_6 hR, rf_56_7 hR, rf_56_8 hR, rf_56_9 hR, rf_56_10 hR, rf_56_11 hR, rf_56_12 hR, rf_56_14 hR, rf_56_15 hR, rf_56_19 hR, rf_56_20 hR, rf_56_21 hR, rf_56_22 hR, rf_56_23 hR, rf_56_24 hR, rf_56_25 hR, rf_56_26 hR, rf_56_27 hR, rf_56_29 hR, rf_56_32 hR, rf_56_33 hR, rf_56_34 hR, rf_56_37 hR, rf_56_38 hR, kn_56, kn_57, kn_58, kn_59, kn_60, kn_61, kn_62, kn_63, kn_64, kn_65, kn_66, kn_67, kn_68, kn_69, kn_70, kn_71, kn_72, kn_73, kn_74, kn_75, kn_76, kn_77, kn_78, kn_79, kn_80, kn_81, kn_82, kn_83, ln_57, ln_58, ln_59, ln_60, ln_61, ln_62, ln_63, ln_64, ln_65, ln_66, ln_67, ln_68, ln_69, ln_70, ln_71, ln_72, ln_73, ln_74, ln_75, ln_76, ln_77, ln_78, ln_79, ln_80, ln_81, ln_82, ln_83, va_rf_some, push_s, push_n, nb0, nb1, nbb, Nat.reduceLT, hr_c66, hr_c69, hr_c70, hr_c71, hr_c72, hr_c73, hr_c74, hr_c75, hr_c76, hr_c77, hr_u69, hr_u70, hr_u71, hr_u72, hr_u73, hr_u74, hr_u75, hr_u76, hr_u77, hr_k13, hr_k17, hr_k18, hr_k28, hr_s17, hr_s18, hr_s28, hr_16, hr_set, m_roomNext hR hT (show p < 1000 by omega) h1 (show nr < 1000 by omega), k1, if_true, q1, e1, if_false, m_roomNext hR hT (show p + 1 < 1000 by omega) h1 (show nr < 1000 by omega), k2, q2, m_lv hR (TX_hr (p := p + 2) hT) (show p + 2 < 1000 by omega), m_windL hT, k4, e2, e4, e3, ex, ea, eb, ia, ib, ca, cb, nI_1]
theorem m_rw2 (hR : tRef h d R) (hT : TX I n tc) (hp : p < 800) (h2 : I 56 18 = nI nt) (hn : nt ≤ 16) {a b x y : Nat} (ha : 4 * a + x < 24) (hb : 4 * b + y < 24) (hd : dg n tc p = true) (hok : drOk I n tc nt a p = true) {l5 l6 : Value} : tEv E 59 100 [.ref 56, .int (nI a), .int (nI b), .int (nI x), .int (nI y), l5, l6] [] (mS (hr I p) J R) Q = Q (some 1) (mS (hr (va_up (va_up (va_up I 56 (upd (I 56) 28 (I 56 28 ||| (1 <<< (nI (thV n tc p) &&& 31))))) 76 (upd (upd (I 76) (4 * a + x) (nI b)) (4 * b + y) (nI a))) 77 (upd (upd (I 77) (4 * a + x) (nI (thV n tc p))) (4 * b + y) (nI (thV n tc p)))) (p + 2)) J R) := by
  have ea : (4 : Int32) * nI a + nI x = nI (4 * a + x) := by rw [show (4 : Int32) = nI 4 from rfl, nI_mul, nI_add]
  have eb : (4 : Int32) * nI b + nI y = nI (4 * b + y) := by rw [show (4 : Int32) = nI 4 from rfl, nI_mul, nI_add]
  have ia := inb_nI (j := 4 * a + x) (n := 24) ha (by decide)
  have ib := inb_nI (j := 4 * b + y) (n := 24) hb (by decide)
  have ca := nI_cl (n := 4 * a + x) (by omega)
  have cb := nI_cl (n := 4 * b + y) (by omega)
  unfold drOk at hok
  simp only [Bool.and_eq_true, decide_eq_true_eq, Bool.not_eq_true'] at hok
  obtain ⟨⟨⟨k1, k2⟩, k3⟩, k4⟩ := hok
  have hk := k1
  unfold thOk at hk
  simp only [Bool.and_eq_true, decide_eq_true_eq] at hk
  have hq : thP n tc p = p + 2 := by unfold thP; rw [if_pos hk.1.1, if_pos hk.1.2]
  have e4 : (nI (thV n tc p) = -4) = False := eq_false (nI_n4 (by omega))
  have hix2 := inb_nI (j := thV n tc p) (n := 16) (by omega) (by decide)
  have hcl2 := nI_cl (n := thV n tc p) (by omega)
  simp only [e_59_100, e_59_102, e_59_104, e_59_105, e_59_106, e_59_109, e_59_112, e_59_113, e_59_116, e_59_119, e_59_122, e_59_125, e_59_126, e_59_129, e_59_131, e_59_133, e_59_135, e_59_138, e_59_139, e_59_142, e_59_144, e_59_145, e_59_146, e_59_149, e_59_150, e_59_153, e_59_155, e_59_156, e_59_158, e_59_159, e_59_161, e_59_164, e_59_165, e_59_168, e_59_170, e_59_173, e_59_176, e_59_177, e_59_180, e_59_181, e_59_183, e_59_185, e_59_188, e_59_189, e_59_190, e_59_191, e_59_192, e_59_195, e_59_196, e_59_198, e_59_199, e_59_200, e_59_203, e_59_204, e_59_207, e_59_208, e_59_209, e_59_210, e_59_211, e_59_212, e_59_213, e_59_214, e_59_215, e_59_218, e_59_219, e_59_220, e_59_221, e_59_223, e_59_224, e_59_225, e_59_226, e_59_227, e_59_230, e_59_231, e_59_232, e_59_233, e_59_234, e_59_235, e_59_237, e_59_238, e_59_239, e_59_242, e_59_243, e_59_244, e_59_245, e_59_247, e_59_248, e_59_250, e_59_251, e_59_252, rf_56_0 hR, rf_56_4 hR, rf_56_5 hR, rf_56_6 hR, rf_56_7 hR, rf_56_8 hR, rf_56_9 hR, rf_56_10 hR, rf_56_11 hR, rf_56_12 hR, rf_56_14 hR, rf_56_15 hR, rf_56_19 hR, rf_56_20 hR, rf_56_21 hR, rf_56_22 hR, rf_56_23 hR, rf_56_24 hR, rf_56_25 hR, rf_56_26 hR, rf_56_27 hR, rf_56_29 hR, rf_56_32 hR, rf_56_33 hR, rf_56_34 hR, rf_56_37 hR, rf_56_38 hR, kn_56, kn_57, kn_58, kn_59, kn_60, kn_61, kn_62, kn_63, kn_64, kn_65, kn_66, kn_67, kn_68, kn_69, kn_70, kn_71, kn_72, kn_73, kn_74, kn_75, kn_76, kn_77, kn_78, kn_79, kn_80, kn_81, kn_82, kn_83, ln_57, ln_58, ln_59, ln_60, ln_61, ln_62, ln_63, ln_64, ln_65, ln_66, ln_67, ln_68, ln_69, ln_70, ln_71, ln_72, ln_73, ln_74, ln_75, ln_76, ln_77, ln_78, ln_79, ln_80, ln_81, ln_82, ln_83, va_rf_some, push_s, push_n, nb0, nb1, nbb, Nat.reduceLT, hr_c66, hr_c69, hr_c70, hr_c71, hr_c72, hr_c73, hr_c74, hr_c75, hr_c76, hr_c77, hr_u69, hr_u70, hr_u71, hr_u72, hr_u73, hr_u74, hr_u75, hr_u76, hr_u77, hr_k13, hr_k17, hr_k18, hr_k28, hr_s17, hr_s18, hr_s28, hr_16, hr_set, m_lv hR (TX_hr (p := p) hT) (show p < 1000 by omega), m_inL hT, hd, b2i_0, Bool.true_eq_false, if_false, m_thingNext hR hT (show p < 900 by omega) h2 (show nt < 1000 by omega), k1, if_true, hq, e4, hix2, hcl2, k2, k3, m_has (show thV n tc p < 32 by omega), k4, show ((1 : Int32) = 0) = False from eq_false (by decide), ea, eb, ia, ib, ca, cb, vu, vu_vu, vu_eq, upd_upd, Nat.reduceEqDiff, reduceIte]
theorem m_rw3 (hR : tRef h d R) (hT : TX I n tc) (hp : p < 800) {a b x y : Nat} (ha : 4 * a + x < 24) (hb : 4 * b + y < 24) (hd : dg n tc p = false) {l5 l6 : Value} : tEv E 59 100 [.ref 56, .int (nI a), .int (nI b), .int (nI x), .int (nI y), l5, l6] [] (mS (hr I p) J R) Q = Q (some 1) (mS (hr (va_up (va_up I 76 (upd (upd (I 76) (4 * a + x) (nI b)) (4 * b + y) (nI a))) 77 (upd (upd (I 77) (4 * a + x) (-4)) (4 * b + y) (-4))) p) J R) := by
  have ea : (4 : Int32) * nI a + nI x = nI (4 * a + x) := by rw [show (4 : Int32) = nI 4 from rfl, nI_mul, nI_add]
  have eb : (4 : Int32) * nI b + nI y = nI (4 * b + y) := by rw [show (4 : Int32) = nI 4 from rfl, nI_mul, nI_add]
  have ia := inb_nI (j := 4 * a + x) (n := 24) ha (by decide)
  have ib := inb_nI (j := 4 * b + y) (n := 24) hb (by decide)
  have ca := nI_cl (n := 4 * a + x) (by omega)
  have cb := nI_cl (n := 4 * b + y) (by omega)
  simp only [e_59_100, e_59_102, e_59_104, e_59_105, e_59_106, e_59_109, e_59_112, e_59_113, e_59_116, e_59_119, e_59_122, e_59_125, e_59_126, e_59_129, e_59_131, e_59_133, e_59_135, e_59_138, e_59_139, e_59_142, e_59_144, e_59_145, e_59_146, e_59_149, e_59_150, e_59_153, e_59_155, e_59_156, e_59_158, e_59_159, e_59_161, e_59_164, e_59_165, e_59_168, e_59_170, e_59_173, e_59_176, e_59_177, e_59_180, e_59_181, e_59_183, e_59_185, e_59_188, e_59_189, e_59_190, e_59_191, e_59_192, e_59_195, e_59_196, e_59_198, e_59_199, e_59_200, e_59_203, e_59_204, e_59_207, e_59_208, e_59_209, e_59_210, e_59_211, e_59_212, e_59_213, e_59_214, e_59_215, e_59_218, e_59_219, e_59_220, e_59_221, e_59_223, e_59_224, e_59_225, e_59_226, e_59_227, e_59_230, e_59_231, e_59_232, e_59_233, e_59_234, e_59_235, e_59_237, e_59_238, e_59_239, e_59_242, e_59_243, e_59_244, e_59_245, e_59_247, e_59_248, e_59_250, e_59_251, e_59_252, rf_56_0 hR, rf_56_4 hR, rf_56_5 hR, rf_56_6 hR, rf_56_7 hR, rf_56_8 hR, rf_56_9 hR, rf_56_10 hR, rf_56_11 hR, rf_56_12 hR, rf_56_14 hR, rf_56_15 hR, rf_56_19 hR, rf_56_20 hR, rf_56_21 hR, rf_56_22 hR, rf_56_23 hR, rf_56_24 hR, rf_56_25 hR, rf_56_26 hR, rf_56_27 hR, rf_56_29 hR, rf_56_32 hR, rf_56_33 hR, rf_56_34 hR, rf_56_37 hR, rf_56_38 hR, kn_56, kn_57, kn_58, kn_59, kn_60, kn_61, kn_62, kn_63, kn_64, kn_65, kn_66, kn_67, kn_68, kn_69, kn_70, kn_71, kn_72, kn_73, kn_74, kn_75, kn_76, kn_77, kn_78, kn_79, kn_80, kn_81, kn_82, kn_83, ln_57, ln_58, ln_59, ln_60, ln_61, ln_62, ln_63, ln_64, ln_65, ln_66, ln_67, ln_68, ln_69, ln_70, ln_71, ln_72, ln_73, ln_74, ln_75, ln_76, ln_77, ln_78, ln_79, ln_80, ln_81, ln_82, ln_83, va_rf_some, push_s, push_n, nb0, nb1, nbb, Nat.reduceLT, hr_c66, hr_c69, hr_c70, hr_c71, hr_c72, hr_c73, hr_c74, hr_c75, hr_c76, hr_c77, hr_u69, hr_u70, hr_u71, hr_u72, hr_u73, hr_u74, hr_u75, hr_u76, hr_u77, hr_k13, hr_k17, hr_k18, hr_k28, hr_s17, hr_s18, hr_s28, hr_16, hr_set, m_lv hR (TX_hr (p := p) hT) (show p < 1000 by omega), m_inL hT, hd, b2i_0, if_true, ea, eb, ia, ib, ca, cb, vu, vu_vu, vu_eq, upd_upd, Nat.reduceEqDiff, reduceIte]
theorem m_rw4 (hR : tRef h d R) (hT : TX I n tc) (hp : p < 800) (h2 : I 56 18 = nI nt) (hn : nt ≤ 16) {a b x y : Nat} (ha : a < 10) (hd : dg n tc p = true) (hok : drOk I n tc nt a p = false) {l5 l6 : Value} : tEv E 59 100 [.ref 56, .int (nI a), .int (nI b), .int (nI x), .int (nI y), l5, l6] [] (mS (hr I p) J R) Q = Q (some 0) (mS (hr I (thP n tc p)) J R) := by
  unfold drOk at hok
  cases k1 : thOk n tc nt p with
  | false =>
    simp only [e_59_100, e_59_102, e_59_104, e_59_105, e_59_106, e_59_109, e_59_112, e_59_113, e_59_116, e_59_119, e_59_122, e_59_125, e_59_126, e_59_129, e_59_131, e_59_133, e_59_135, e_59_138, e_59_139, e_59_142, e_59_144, e_59_145, e_59_146, e_59_149, e_59_150, e_59_153, e_59_155, e_59_156, e_59_158, e_59_159, e_59_161, e_59_164, e_59_165, e_59_168, e_59_170, e_59_173, e_59_176, e_59_177, e_59_180, e_59_181, e_59_183, e_59_185, e_59_188, e_59_189, rf_56_0 hR, rf_56_4 hR, rf_56_5 hR, rf_56_6 hR, rf_56_7 hR, rf_56_8 hR, rf_56_9 hR, rf_56_10 hR, rf_56_11 hR, rf_56_12 hR, rf_56_14 hR, rf_56_15 hR, rf_56_19 hR, rf_56_20 hR, rf_56_21 hR, rf_56_22 hR, rf_56_23 hR, rf_56_24 hR, rf_56_25 hR, rf_56_26 hR, rf_56_27 hR, rf_56_29 hR, rf_56_32 hR, rf_56_33 hR, rf_56_34 hR, rf_56_37 hR, rf_56_38 hR, kn_56, kn_57, kn_58, kn_59, kn_60, kn_61, kn_62, kn_63, kn_64, kn_65, kn_66, kn_67, kn_68, kn_69, kn_70, kn_71, kn_72, kn_73, kn_74, kn_75, kn_76, kn_77, kn_78, kn_79, kn_80, kn_81, kn_82, kn_83, ln_57, ln_58, ln_59, ln_60, ln_61, ln_62, ln_63, ln_64, ln_65, ln_66, ln_67, ln_68, ln_69, ln_70, ln_71, ln_72, ln_73, ln_74, ln_75, ln_76, ln_77, ln_78, ln_79, ln_80, ln_81, ln_82, ln_83, va_rf_some, push_s, push_n, nb0, nb1, nbb, Nat.reduceLT, hr_c66, hr_c69, hr_c70, hr_c71, hr_c72, hr_c73, hr_c74, hr_c75, hr_c76, hr_c77, hr_u69, hr_u70, hr_u71, hr_u72, hr_u73, hr_u74, hr_u75, hr_u76, hr_u77, hr_k13, hr_k17, hr_k18, hr_k28, hr_s17, hr_s18, hr_s28, hr_16, hr_set, m_lv hR (TX_hr (p := p) hT) (show p < 1000 by omega), m_inL hT, hd, b2i_0, Bool.true_eq_false, if_false, m_thingNext hR hT (show p < 900 by omega) h2 (show nt < 1000 by omega), k1, Bool.false_eq_true, if_true]
  | true =>
    have hk := k1
    unfold thOk at hk
    simp only [Bool.and_eq_true, decide_eq_true_eq] at hk
    have e4 : (nI (thV n tc p) = -4) = False := eq_false (nI_n4 (by omega))
    have hix2 := inb_nI (j := thV n tc p) (n := 16) (by omega) (by decide)
    have hcl2 := nI_cl (n := thV n tc p) (by omega)
    rw [k1, Bool.true_and] at hok
    simp only [e_59_100, e_59_102, e_59_104, e_59_105, e_59_106, e_59_109, e_59_112, e_59_113, e_59_116, e_59_119, e_59_122, e_59_125, e_59_126, e_59_129, e_59_131, e_59_133, e_59_135, e_59_138, e_59_139, e_59_142, e_59_144, e_59_145, e_59_146, e_59_149, e_59_150, e_59_153, e_59_155, e_59_156, e_59_158, e_59_159, e_59_161, e_59_164, e_59_165, e_59_168, e_59_170, e_59_173, e_59_176, e_59_177, e_59_180, e_59_181, e_59_183, e_59_185, e_59_188, e_59_189, rf_56_0 hR, rf_56_4 hR, rf_56_5 hR, rf_56_6 hR, rf_56_7 hR, rf_56_8 hR, rf_56_9 hR, rf_56_10 hR, rf_56_11 hR, rf_56_12 hR, rf_56_14 hR, rf_56_15 hR, rf_56_19 hR, rf_56_20 hR, rf_56_21 hR, rf_56_22 hR, rf_56_23 hR, rf_56_24 hR, rf_56_25 hR, rf_56_26 hR, rf_56_27 hR, rf_56_29 hR, rf_56_32 hR, rf_56_33 hR, rf_56_34 hR, rf_56_37 hR, rf_56_38 hR, kn_56, kn_57, kn_58, kn_59, kn_60, kn_61, kn_62, kn_63, kn_64, kn_65, kn_66, kn_67, kn_68, kn_69, kn_70, kn_71, kn_72, kn_73, kn_74, kn_75, kn_76, kn_77, kn_78, kn_79, kn_80, kn_81, kn_82, kn_83, ln_57, ln_58, ln_59, ln_60, ln_61, ln_62, ln_63, ln_64, ln_65, ln_66, ln_67, ln_68, ln_69, ln_70, ln_71, ln_72, ln_73, ln_74, ln_75, ln_76, ln_77, ln_78, ln_79, ln_80, ln_81, ln_82, ln_83, va_rf_some, push_s, push_n, nb0, nb1, nbb, Nat.reduceLT, hr_c66, hr_c69, hr_c70, hr_c71, hr_c72, hr_c73, hr_c74, hr_c75, hr_c76, hr_c77, hr_u69, hr_u70, hr_u71, hr_u72, hr_u73, hr_u74, hr_u75, hr_u76, hr_u77, hr_k13, hr_k17, hr_k18, hr_k28, hr_s17, hr_s18, hr_s28, hr_16, hr_set, m_lv hR (TX_hr (p := p) hT) (show p < 1000 by omega), m_inL hT, hd, b2i_0, Bool.true_eq_false, if_false, m_thingNext hR hT (show p < 900 by omega) h2 (show nt < 1000 by omega), k1, if_true, e4, hix2, hcl2, m_has (show thV n tc p < 32 by omega)]
    by_cases k2 : I 72 (thV n tc p) = nI a
    · by_cases k3 : I 74 (thV n tc p) &&& 15 = 12
      · have k4 : bt (I 56 28) (thV n tc p) = true := by
          rw [decide_eq_true k2, decide_eq_true k3] at hok
          simpa using hok
        simp [k2, k3, k4]
      · simp [k2, k3]
    · simp [k2]
theorem m_readsWay_1 (hR : tRef h d R) (hT : TX I n tc) (hp : p < 700) (h1 : I 56 17 = nI nr) (hn : nr ≤ 6) (h2 : I 56 18 = nI nt) (hn2 : nt ≤ 16) (hok : wyOk I n tc nr nt p = true) : tEv E 59 0 [.ref 56, tm_dum, tm_dum, tm_dum, tm_dum, tm_dum, tm_dum] [] (mS (hr I p) J R) Q = Q (some 1) (mS (hr (rdWy I n tc p) (wyP n tc p)) J R) := by
  unfold wyOk at hok
  simp only [Bool.and_eq_true, decide_eq_true_eq, Bool.not_eq_true', decide_eq_false_iff_not] at hok
  obtain ⟨⟨⟨⟨⟨⟨k1, k2⟩, k3⟩, k4⟩, k5⟩, k6⟩, k7⟩ := hok
  have j1 := k1
  have j2 := k2
  unfold rmOk at j1 j2
  simp only [Bool.and_eq_true, decide_eq_true_eq] at j1 j2
  have hw := wdN_lt (cc n tc (p + 2))
  have hwb := wb_lt hw
  rw [m_rw1 hR hT (by omega) h1 hn k1 k2 k3 k4, if_pos k5, if_pos k6]
  unfold rdWy wyP wyD
  cases hd : dg n tc (p + 3) with
  | true =>
    rw [hd, Bool.not_true, Bool.false_or] at k7
    rw [m_rw2 hR hT (by omega) h2 hn2 (by omega) (by omega) hd k7]
    rfl
  | false =>
    rw [m_rw3 hR hT (by omega) (by omega) (by omega) hd]
    rfl
theorem m_readsWay_0 (hR : tRef h d R) (hT : TX I n tc) (hp : p < 700) (h1 : I 56 17 = nI nr) (hn : nr ≤ 6) (h2 : I 56 18 = nI nt) (hn2 : nt ≤ 16) (hok : wyOk I n tc nr nt p = false) : ∃ q, ∀ Q, tEv E 59 0 [.ref 56, tm_dum, tm_dum, tm_dum, tm_dum, tm_dum, tm_dum] [] (mS (hr I p) J R) Q = Q (some 0) (mS (hr I q) J R) := by
  have hr1 := fun {Q} => m_roomNext (E := E) (Q := Q) (J := J) hR hT (show p < 1000 by omega) h1 (show nr < 1000 by omega)
  cases k1 : rmOk n tc nr p with
  | false =>
    have hp1 : rmP n tc p ≤ p + 1 := by unfold rmP; split <;> omega
    refine ⟨rmP n tc p, fun Q => ?_⟩
    simp only [e_59_0, e_59_1, e_59_4, e_59_5, e_59_6, e_59_8, e_59_11, e_59_13, e_59_16, e_59_17, e_59_20, e_59_21, e_59_22, e_59_23, e_59_26, e_59_29, e_59_32, e_59_33, e_59_34, e_59_36, e_59_39, e_59_40, e_59_41, e_59_44, e_59_45, e_59_47, e_59_50, e_59_51, rf_56_0 hR, rf_56_4 hR, rf_56_5 hR, rf_56_6 hR, rf_56_7 hR, rf_56_8 hR, rf_56_9 hR, rf_56_10 hR, rf_56_11 hR, rf_56_12 hR, rf_56_14 hR, rf_56_15 hR, rf_56_19 hR, rf_56_20 hR, rf_56_21 hR, rf_56_22 hR, rf_56_23 hR, rf_56_24 hR, rf_56_25 hR, rf_56_26 hR, rf_56_27 hR, rf_56_29 hR, rf_56_32 hR, rf_56_33 hR, rf_56_34 hR, rf_56_37 hR, rf_56_38 hR, kn_56, kn_57, kn_58, kn_59, kn_60, kn_61, kn_62, kn_63, kn_64, kn_65, kn_66, kn_67, kn_68, kn_69, kn_70, kn_71, kn_72, kn_73, kn_74, kn_75, kn_76, kn_77, kn_78, kn_79, kn_80, kn_81, kn_82, kn_83, ln_57, ln_58, ln_59, ln_60, ln_61, ln_62, ln_63, ln_64, ln_65, ln_66, ln_67, ln_68, ln_69, ln_70, ln_71, ln_72, ln_73, ln_74, ln_75, ln_76, ln_77, ln_78, ln_79, ln_80, ln_81, ln_82, ln_83, va_rf_some, push_s, push_n, nb0, nb1, nbb, Nat.reduceLT, hr_c66, hr_c69, hr_c70, hr_c71, hr_c72, hr_c73, hr_c74, hr_c75, hr_c76, hr_c77, hr_u69, hr_u70, hr_u71, hr_u72, hr_u73, hr_u74, hr_u75, hr_u76, hr_u77, hr_k13, hr_k17, hr_k18, hr_k28, hr_s17, hr_s18, hr_s28, hr_16, hr_set, hr1, k1, Bool.false_eq_true, if_false, if_true, m_lv hR (TX_hr (p := rmP n tc p) hT) (show rmP n tc p < 1000 by omega), m_windL hT]
  | true =>
    have j1 := k1
    unfold rmOk at j1
    simp only [Bool.and_eq_true, decide_eq_true_eq] at j1
    have q1 : rmP n tc p = p + 1 := if_pos j1.1
    have e1 : (nI (dv n tc p) = -4) = False := eq_false (nI_n4 (by omega))
    have hr2 := fun {Q} => m_roomNext (E := E) (Q := Q) (J := J) hR hT (show p + 1 < 1000 by omega) h1 (show nr < 1000 by omega)
    cases k2 : rmOk n tc nr (p + 1) with
    | false =>
      have hp2 : rmP n tc (p + 1) ≤ p + 2 := by unfold rmP; split <;> omega
      refine ⟨rmP n tc (p + 1), fun Q => ?_⟩
      simp only [e_59_0, e_59_1, e_59_4, e_59_5, e_59_6, e_59_8, e_59_11, e_59_13, e_59_16, e_59_17, e_59_20, e_59_21, e_59_22, e_59_23, e_59_26, e_59_29, e_59_32, e_59_33, e_59_34, e_59_36, e_59_39, e_59_40, e_59_41, e_59_44, e_59_45, e_59_47, e_59_50, e_59_51, rf_56_0 hR, rf_56_4 hR, rf_56_5 hR, rf_56_6 hR, rf_56_7 hR, rf_56_8 hR, rf_56_9 hR, rf_56_10 hR, rf_56_11 hR, rf_56_12 hR, rf_56_14 hR, rf_56_15 hR, rf_56_19 hR, rf_56_20 hR, rf_56_21 hR, rf_56_22 hR, rf_56_23 hR, rf_56_24 hR, rf_56_25 hR, rf_56_26 hR, rf_56_27 hR, rf_56_29 hR, rf_56_32 hR, rf_56_33 hR, rf_56_34 hR, rf_56_37 hR, rf_56_38 hR, kn_56, kn_57, kn_58, kn_59, kn_60, kn_61, kn_62, kn_63, kn_64, kn_65, kn_66, kn_67, kn_68, kn_69, kn_70, kn_71, kn_72, kn_73, kn_74, kn_75, kn_76, kn_77, kn_78, kn_79, kn_80, kn_81, kn_82, kn_83, ln_57, ln_58, ln_59, ln_60, ln_61, ln_62, ln_63, ln_64, ln_65, ln_66, ln_67, ln_68, ln_69, ln_70, ln_71, ln_72, ln_73, ln_74, ln_75, ln_76, ln_77, ln_78, ln_79, ln_80, ln_81, ln_82, ln_83, va_rf_some, push_s, push_n, nb0, nb1, nbb, Nat.reduceLT, hr_c66, hr_c69, hr_c70, hr_c71, hr_c72, hr_c73, hr_c74, hr_c75, hr_c76, hr_c77, hr_u69, hr_u70, hr_u71, hr_u72, hr_u73, hr_u74, hr_u75, hr_u76, hr_u77, hr_k13, hr_k17, hr_k18, hr_k28, hr_s17, hr_s18, hr_s28, hr_16, hr_set, hr1, k1, if_true, q1, e1, if_false, hr2, k2, Bool.false_eq_true, m_lv hR (TX_hr (p := rmP n tc (p + 1)) hT) (show rmP n tc (p + 1) < 1000 by omega), m_windL hT]
    | true =>
      have j2 := k2
      unfold rmOk at j2
      simp only [Bool.and_eq_true, decide_eq_true_eq] at j2
      have q2 : rmP n tc (p + 1) = p + 2 := if_pos j2.1
      have e2 : (nI (dv n tc (p + 1)) = -4) = False := eq_false (nI_n4 (by omega))
      by_cases k3 : dv n tc p = dv n tc (p + 1)
      · refine ⟨p + 2, fun Q => ?_⟩
        simp only [e_59_0, e_59_1, e_59_4, e_59_5, e_59_6, e_59_8, e_59_11, e_59_13, e_59_16, e_59_17, e_59_20, e_59_21, e_59_22, e_59_23, e_59_26, e_59_29, e_59_32, e_59_33, e_59_34, e_59_36, e_59_39, e_59_40, e_59_41, e_59_44, e_59_45, e_59_47, e_59_50, e_59_51, rf_56_0 hR, rf_56_4 hR, rf_56_5 hR, rf_56_6 hR, rf_56_7 hR, rf_56_8 hR, rf_56_9 hR, rf_56_10 hR, rf_56_11 hR, rf_56_12 hR, rf_56_14 hR, rf_56_15 hR, rf_56_19 hR, rf_56_20 hR, rf_56_21 hR, rf_56_22 hR, rf_56_23 hR, rf_56_24 hR, rf_56_25 hR, rf_56_26 hR, rf_56_27 hR, rf_56_29 hR, rf_56_32 hR, rf_56_33 hR, rf_56_34 hR, rf_56_37 hR, rf_56_38 hR, kn_56, kn_57, kn_58, kn_59, kn_60, kn_61, kn_62, kn_63, kn_64, kn_65, kn_66, kn_67, kn_68, kn_69, kn_70, kn_71, kn_72, kn_73, kn_74, kn_75, kn_76, kn_77, kn_78, kn_79, kn_80, kn_81, kn_82, kn_83, ln_57, ln_58, ln_59, ln_60, ln_61, ln_62, ln_63, ln_64, ln_65, ln_66, ln_67, ln_68, ln_69, ln_70, ln_71, ln_72, ln_73, ln_74, ln_75, ln_76, ln_77, ln_78, ln_79, ln_80, ln_81, ln_82, ln_83, va_rf_some, push_s, push_n, nb0, nb1, nbb, Nat.reduceLT, hr_c66, hr_c69, hr_c70, hr_c71, hr_c72, hr_c73, hr_c74, hr_c75, hr_c76, hr_c77, hr_u69, hr_u70, hr_u71, hr_u72, hr_u73, hr_u74, hr_u75, hr_u76, hr_u77, hr_k13, hr_k17, hr_k18, hr_k28, hr_s17, hr_s18, hr_s28, hr_16, hr_set, hr1, k1, if_true, q1, e1, if_false, hr2, k2, q2, m_lv hR (TX_hr (p := p + 2) hT) (show p + 2 < 1000 by omega), m_windL hT, e2, show (nI (dv n tc p) = nI (dv n tc (p + 1))) = True from eq_true (by rw [k3])]
      · have e3 : (nI (dv n tc p) = nI (dv n tc (p + 1))) = False := eq_false (fun e => k3 ((nI_eq (by omega) (by omega)).mp e))
        cases k4 : wdOk (cc n tc (p + 2)) with
        | false =>
          refine ⟨p + 2, fun Q => ?_⟩
          simp only [e_59_0, e_59_1, e_59_4, e_59_5, e_59_6, e_59_8, e_59_11, e_59_13, e_59_16, e_59_17, e_59_20, e_59_21, e_59_22, e_59_23, e_59_26, e_59_29, e_59_32, e_59_33, e_59_34, e_59_36, e_59_39, e_59_40, e_59_41, e_59_44, e_59_45, e_59_47, e_59_50, e_59_51, rf_56_0 hR, rf_56_4 hR, rf_56_5 hR, rf_56_6 hR, rf_56_7 hR, rf_56_8 hR, rf_56_9 hR, rf_56_10 hR, rf_56_11 hR, rf_56_12 hR, rf_56_14 hR, rf_56_15 hR, rf_56_19 hR, rf_56_20 hR, rf_56_21 hR, rf_56_22 hR, rf_56_23 hR, rf_56_24 hR, rf_56_25 hR, rf_56_26 hR, rf_56_27 hR, rf_56_29 hR, rf_56_32 hR, rf_56_33 hR, rf_56_34 hR, rf_56_37 hR, rf_56_38 hR, kn_56, kn_57, kn_58, kn_59, kn_60, kn_61, kn_62, kn_63, kn_64, kn_65, kn_66, kn_67, kn_68, kn_69, kn_70, kn_71, kn_72, kn_73, kn_74, kn_75, kn_76, kn_77, kn_78, kn_79, kn_80, kn_81, kn_82, kn_83, ln_57, ln_58, ln_59, ln_60, ln_61, ln_62, ln_63, ln_64, ln_65, ln_66, ln_67, ln_68, ln_69, ln_70, ln_71, ln_72, ln_73, ln_74, ln_75, ln_76, ln_77, ln_78, ln_79, ln_80, ln_81, ln_82, ln_83, va_rf_some, push_s, push_n, nb0, nb1, nbb, Nat.reduceLT, hr_c66, hr_c69, hr_c70, hr_c71, hr_c72, hr_c73, hr_c74, hr_c75, hr_c76, hr_c77, hr_u69, hr_u70, hr_u71, hr_u72, hr_u73, hr_u74, hr_u75, hr_u76, hr_u77, hr_k13, hr_k17, hr_k18, hr_k28, hr_s17, hr_s18, hr_s28, hr_16, hr_set, hr1, k1, if_true, q1, e1, if_false, hr2, k2, q2, m_lv hR (TX_hr (p := p + 2) hT) (show p + 2 < 1000 by omega), m_windL hT, e2, e3, k4, Bool.false_eq_true]
        | true =>
          have hm := fun {Q} => m_rw1 (E := E) (Q := Q) (J := J) hR hT (show p < 800 by omega) h1 hn k1 k2 k3 k4
          by_cases k5 : I 76 (wyA n tc p) = -4
          · by_cases k6 : I 76 (wyB n tc p) = -4
            · have k7 : (!dg n tc (p + 3) || drOk I n tc nt (dv n tc p) (p + 3)) = false := by
                unfold wyOk at hok
                rw [k1, k2, decide_eq_false k3, k4, decide_eq_true k5, decide_eq_true k6] at hok
                simpa using hok
              simp only [Bool.or_eq_false_iff, Bool.not_eq_false'] at k7
              refine ⟨thP n tc (p + 3), fun Q => ?_⟩
              rw [hm, if_pos k5, if_pos k6, m_rw4 hR hT (by omega) h2 hn2 (by omega) k7.1 k7.2]
            · exact ⟨p + 3, fun Q => by rw [hm, if_pos k5, if_neg k6]⟩
          · exact ⟨p + 3, fun Q => by rw [hm, if_neg k5]⟩
end RY
