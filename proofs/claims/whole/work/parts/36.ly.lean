/-! ===== the model: reads, fault, lay ===== -/
def cpN (f g : Nat → Int32) (n k : Nat) : Int32 := if k < n then g k else f k
theorem cpN_0 (f g : Nat → Int32) : cpN f g 0 = f := by
  funext k
  unfold cpN
  rw [if_neg (by omega)]
theorem cpN_step (f g : Nat → Int32) (i : Nat) : upd (cpN f g i) i (g i) = cpN f g (i + 1) := by
  funext k
  rw [ud]
  unfold cpN
  by_cases e : k = i
  · subst e
    rw [if_pos rfl, if_pos (by omega)]
  · rw [if_neg e]
    by_cases e2 : k < i
    · rw [if_pos e2, if_pos (by omega)]
    · rw [if_neg e2, if_neg (by omega)]
def lyw (I : Nat → Nat → Int32) (n q : Nat) : Int32 :=
  if q < n then I 72 q else if 16 ≤ q ∧ q < 16 + n then (if I 74 (q - 16) &&& 32 = 0 then 0 else 2) else if 32 ≤ q ∧ q < 32 + n then (if I 74 (q - 32) &&& 16 = 0 then 0 else 20) else I 57 q
theorem lyw_0 (I : Nat → Nat → Int32) : lyw I 0 = I 57 := by
  funext q
  unfold lyw
  rw [if_neg (by omega), if_neg (by omega), if_neg (by omega)]
theorem lyw_step (I : Nat → Nat → Int32) {i : Nat} (hi : i < 16) : upd (upd (upd (lyw I i) i (I 72 i)) (16 + i) (if I 74 i &&& 32 = 0 then 0 else 2)) (32 + i) (if I 74 i &&& 16 = 0 then 0 else 20) = lyw I (i + 1) := by
  funext q
  rw [ud, ud, ud]
  unfold lyw
  by_cases e1 : q = 32 + i
  · subst e1
    rw [if_pos rfl, if_neg (show ¬ 32 + i < i + 1 by omega), if_neg (show ¬ (16 ≤ 32 + i ∧ 32 + i < 16 + (i + 1)) by omega), if_pos (show 32 ≤ 32 + i ∧ 32 + i < 32 + (i + 1) by omega), show 32 + i - 32 = i by omega]
  · rw [if_neg e1]
    by_cases e2 : q = 16 + i
    · subst e2
      rw [if_pos rfl, if_neg (show ¬ 16 + i < i + 1 by omega), if_pos (show 16 ≤ 16 + i ∧ 16 + i < 16 + (i + 1) by omega), show 16 + i - 16 = i by omega]
    · rw [if_neg e2]
      by_cases e3 : q = i
      · subst e3
        rw [if_pos rfl, if_pos (by omega)]
      · rw [if_neg e3]
        have a1 : (q < i) ↔ (q < i + 1) := by omega
        have a2 : (16 ≤ q ∧ q < 16 + i) ↔ (16 ≤ q ∧ q < 16 + (i + 1)) := by omega
        have a3 : (32 ≤ q ∧ q < 32 + i) ↔ (32 ≤ q ∧ q < 32 + (i + 1)) := by omega
        simp only [a1, a2, a3]
/-- the things laid, up to i -/
def ly6 (I0 : Nat → Nat → Int32) (a b c e f g : Nat → Int32) : Nat → Nat → Int32 := va_up (va_up (va_up (va_up (va_up (va_up I0 59 a) 60 b) 61 c) 62 e) 63 f) 57 g
theorem ly6_ly6 (I0 : Nat → Nat → Int32) (a b c e f g a' b' c' e' f' g' : Nat → Int32) : va_up (va_up (va_up (va_up (va_up (va_up (ly6 I0 a b c e f g) 59 a') 60 b') 61 c') 62 e') 63 f') 57 g' = ly6 I0 a' b' c' e' f' g' := by
  funext k
  unfold ly6
  simp only [vu]
  by_cases h57 : k = 57
  · simp [h57]
  · by_cases h63 : k = 63
    · simp [h63]
    · by_cases h62 : k = 62
      · simp [h62]
      · by_cases h61 : k = 61
        · simp [h61]
        · by_cases h60 : k = 60
          · simp [h60]
          · by_cases h59 : k = 59
            · simp [h59]
            · simp [h57, h63, h62, h61, h60, h59]
theorem ly6_59 {I0 : Nat → Nat → Int32} {a b c e f g : Nat → Int32} : ly6 I0 a b c e f g 59 = a := Eq.trans rfl rfl
theorem ly6_60 {I0 : Nat → Nat → Int32} {a b c e f g : Nat → Int32} : ly6 I0 a b c e f g 60 = b := Eq.trans rfl rfl
theorem ly6_61 {I0 : Nat → Nat → Int32} {a b c e f g : Nat → Int32} : ly6 I0 a b c e f g 61 = c := Eq.trans rfl rfl
theorem ly6_62 {I0 : Nat → Nat → Int32} {a b c e f g : Nat → Int32} : ly6 I0 a b c e f g 62 = e := Eq.trans rfl rfl
theorem ly6_63 {I0 : Nat → Nat → Int32} {a b c e f g : Nat → Int32} : ly6 I0 a b c e f g 63 = f := Eq.trans rfl rfl
theorem ly6_57 {I0 : Nat → Nat → Int32} {a b c e f g : Nat → Int32} : ly6 I0 a b c e f g 57 = g := Eq.trans rfl rfl
theorem ly6_x {I0 : Nat → Nat → Int32} {a b c e f g : Nat → Int32} {k : Nat} (h : k ≠ 57 ∧ k ≠ 59 ∧ k ≠ 60 ∧ k ≠ 61 ∧ k ≠ 62 ∧ k ≠ 63) : ly6 I0 a b c e f g k = I0 k := by
  unfold ly6
  simp only [vu]
  simp [h]
section LY
variable {E : tm_Env} {Q : Option Int32 → tm_St → Prop} {I : Nat → Nat → Int32} {J : Nat → Nat → Int64} {R : Nat → Nat → Option Nat} {h d : Nat} {nr nt n p : Nat} {tc : Nat → Nat}
theorem m_reads_loop (hR : tRef h d R) {A a b : Nat → Int32} {l2 l3 : Value} : ∀ j i, i + j = 24 → tEv E 60 22 [.ref 56, .int (nI i), l2, l3] [] (mS (va_up (va_up (va_up I 56 A) 76 (fun k => if k < i then -4 else a k)) 77 (fun k => if k < i then -4 else b k)) J R) Q = tEv E 60 50 [.ref 56, .int (nI 24), l2, l3] [] (mS (va_up (va_up (va_up I 56 A) 76 (fun k => if k < 24 then -4 else a k)) 77 (fun k => if k < 24 then -4 else b k)) J R) Q
  | 0, i, hj => by
    obtain rfl : i = 24 := by omega
    have hn : (nI 24 < (24 : Int32)) = False := eq_false (by decide)
    rw [e_60_22]
    simp only [e_60_23, e_60_25, e_60_28, e_60_29, e_60_32, e_60_33, e_60_35, e_60_36, e_60_37, e_60_40, e_60_41, e_60_43, e_60_44, e_60_47, hn, if_false]
  | j + 1, i, hj => by
    have hn : (nI i < (24 : Int32)) = True := eq_true (nI_lt (b := 24) (by omega) (by omega))
    have hix := inb_nI (j := i) (n := 24) (by omega) (by decide)
    have hcl := nI_cl (n := i) (by omega)
    have key : ∀ a : Nat → Int32, upd (fun k => if k < i then -4 else a k) i (-4) = (fun k => if k < i + 1 then -4 else a k) := by
      intro a
      funext q
      rw [ud]
      by_cases e : q = i
      · subst e
        rw [if_pos rfl, if_pos (by omega)]
      · rw [if_neg e]
        by_cases e2 : q < i
        · have e3 : q < i + 1 := by omega
          simp only [e2, e3, if_true]
        · have e3 : ¬ q < i + 1 := by omega
          simp only [e2, e3, if_false]
    rw [e_60_22]
    simp only [e_60_23, e_60_25, e_60_28, e_60_29, e_60_32, e_60_33, e_60_35, e_60_36, e_60_37, e_60_40, e_60_41, e_60_43, e_60_44, e_60_47, rf_56_0 hR, rf_56_4 hR, rf_56_5 hR, rf_56_6 hR, rf_56_7 hR, rf_56_8 hR, rf_56_9 hR, rf_56_10 hR, rf_56_11 hR, rf_56_12 hR, rf_56_14 hR, rf_56_15 hR, rf_56_19 hR, rf_56_20 hR, rf_56_21 hR, rf_56_22 hR, rf_56_23 hR, rf_56_24 hR, rf_56_25 hR, rf_56_26 hR, rf_56_27 hR, rf_56_29 hR, rf_56_32 hR, rf_56_33 hR, rf_56_34 hR, rf_56_37 hR, rf_56_38 hR, kn_56, kn_57, kn_58, kn_59, kn_60, kn_61, kn_62, kn_63, kn_64, kn_65, kn_66, kn_67, kn_68, kn_69, kn_70, kn_71, kn_72, kn_73, kn_74, kn_75, kn_76, kn_77, kn_78, kn_79, kn_80, kn_81, kn_82, kn_83, ln_57, ln_58, ln_59, ln_60, ln_61, ln_62, ln_63, ln_64, ln_65, ln_66, ln_67, ln_68, ln_69, ln_70, ln_71, ln_72, ln_73, ln_74, ln_75, ln_76, ln_77, ln_78, ln_79, ln_80, ln_81, ln_82, ln_83, va_rf_some, push_s, push_n, nb0, nb1, nbb, Nat.reduceLT, hn, if_true, hix, hcl, nI_1]
    rw [vu_comm (va_up (va_up I 56 A) 76 _) (k := 77) (j := 76) (by decide), vu_vu, vu_comm (va_up I 56 A) (k := 76) (j := 77) (by decide), vu_vu, vu_comm (va_up I 56 A) (k := 77) (j := 76) (by decide)]
    simp only [vu, Nat.reduceEqDiff, reduceIte, key]
    exact m_reads_loop hR j (i + 1) (by omega)
theorem m_reads0 (hR : tRef h d R) : tEv E 60 0 [.ref 56, tm_dum, tm_dum, tm_dum] [] (mS I J R) Q = tEv E 60 50 [.ref 56, .int (nI 24), tm_dum, tm_dum] [] (mS (hr (rd0 I) 0) J R) Q := by
  have hl := fun {A Q} => m_reads_loop (E := E) (Q := Q) (J := J) (I := I) (A := A) (a := I 76) (b := I 77) (l2 := tm_dum) (l3 := tm_dum) hR 24 0 rfl
  have e0 : ∀ a : Nat → Int32, (fun k => if k < 0 then -4 else a k) = a := fun a => by
    funext k
    rw [if_neg (by omega)]
  have e1 : ∀ A, va_up (va_up (va_up I 56 A) 76 (I 76)) 77 (I 77) = va_up I 56 A := fun A => by
    funext k
    simp only [vu]
    by_cases h1 : k = 77
    · simp [h1]
    · by_cases h2 : k = 76
      · simp [h2]
      · simp [h1, h2]
  simp only [e0, e1] at hl
  have e : va_up (va_up (va_up I 56 (upd (upd (upd (upd (I 56) 16 0) 17 0) 18 0) 28 0)) 76 (fun k => if k < 24 then -4 else I 76 k)) 77 (fun k => if k < 24 then -4 else I 77 k) = hr (rd0 I) 0 := by
    unfold hr rd0
    funext k
    simp only [vu]
    by_cases h1 : k = 77
    · simp [h1]
    · by_cases h2 : k = 76
      · simp [h2]
      · by_cases h3 : k = 56
        · subst h3
          simp only [reduceIte, Nat.reduceEqDiff]
          funext j
          simp only [ud]
          by_cases a1 : j = 16
          · subst a1; rfl
          · by_cases a2 : j = 17
            · subst a2; rfl
            · by_cases a3 : j = 18
              · subst a3; rfl
              · by_cases a4 : j = 28
                · subst a4; rfl
                · simp [a1, a2, a3, a4]
        · simp [h1, h2, h3]
  simp only [e_60_0, e_60_1, e_60_2, e_60_5, e_60_6, e_60_7, e_60_10, e_60_11, e_60_12, e_60_15, e_60_16, e_60_17, e_60_20, e_60_21, rf_56_0 hR, rf_56_4 hR, rf_56_5 hR, rf_56_6 hR, rf_56_7 hR, rf_56_8 hR, rf_56_9 hR, rf_56_10 hR, rf_56_11 hR, rf_56_12 hR, rf_56_14 hR, rf_56_15 hR, rf_56_19 hR, rf_56_20 hR, rf_56_21 hR, rf_56_22 hR, rf_56_23 hR, rf_56_24 hR, rf_56_25 hR, rf_56_26 hR, rf_56_27 hR, rf_56_29 hR, rf_56_32 hR, rf_56_33 hR, rf_56_34 hR, rf_56_37 hR, rf_56_38 hR, kn_56, kn_57, kn_58, kn_59, kn_60, kn_61, kn_62, kn_63, kn_64, kn_65, kn_66, kn_67, kn_68, kn_69, kn_70, kn_71, kn_72, kn_73, kn_74, kn_75, kn_76, kn_77, kn_78, kn_79, kn_80, kn_81, kn_82, kn_83, ln_57, ln_58, ln_59, ln_60, ln_61, ln_62, ln_63, ln_64, ln_65, ln_66, ln_67, ln_68, ln_69, ln_70, ln_71, ln_72, ln_73, ln_74, ln_75, ln_76, ln_77, ln_78, ln_79, ln_80, ln_81, ln_82, ln_83, va_rf_some, push_s, push_n, nb0, nb1, nbb, Nat.reduceLT, vu_vu, vu_eq]
  refine hl.trans ?_
  rw [e]
/-- fault: where, or none -/
theorem m_fault_1 (hR : tRef h d R) (hT : TX I n tc) {I' : Nat → Nat → Int32} {nr' nt' : Nat} (he : rds n tc (n + 1) (rd0 I) 0 0 0 = (none, I', nr', nt')) : tEv E 60 0 [.ref 56, tm_dum, tm_dum, tm_dum] [] (mS I J R) Q = Q (some (-4)) (mS (hr I' n) J R) := by
  rw [m_reads0 hR]
  exact (m_rds_1 hR (n + 1) (rd0 I) 0 0 0 (by omega) (by omega) (TX_fr (frM_rd0 I) hT) ⟨rfl, by decide, rfl, by decide⟩ I' nr' nt' he).2 _ _ _ Q
theorem m_fault_0 (hR : tRef h d R) (hT : TX I n tc) {b : Nat} {I' : Nat → Nat → Int32} {nr' nt' : Nat} (he : rds n tc (n + 1) (rd0 I) 0 0 0 = (some b, I', nr', nt')) : ∃ I2, frM I I2 ∧ ∀ Q, tEv E 60 0 [.ref 56, tm_dum, tm_dum, tm_dum] [] (mS I J R) Q = Q (some (nI b)) (mS I2 J R) := by
  obtain ⟨I2, hf, hq⟩ := m_rds_0 (E := E) (J := J) hR (n + 1) (rd0 I) 0 0 0 (by omega) (by omega) (TX_fr (frM_rd0 I) hT) ⟨rfl, by decide, rfl, by decide⟩ b I' nr' nt' he (.int (nI 24)) tm_dum tm_dum
  exact ⟨I2, frM_trans (frM_rd0 I) hf, fun Q => by rw [m_reads0 hR, hq]⟩
theorem m_lay_l1 (hR : tRef h d R) {B : Nat → Nat → Int32} : ∀ j i, i + j = 6 → tEv E 62 37 [.ref 56, .int (nI i)] [] (mS (va_up B 58 (cpN (B 58) (B 69) i)) J R) Q = tEv E 62 61 [.ref 56, .int (nI 6)] [] (mS (va_up B 58 (cpN (B 58) (B 69) 6)) J R) Q
  | 0, i, hj => by
    obtain rfl : i = 6 := by omega
    have hn : (nI 6 < (6 : Int32)) = False := eq_false (by decide)
    rw [e_62_37]
    simp only [e_62_38, e_62_40, e_62_43, e_62_44, e_62_47, e_62_48, e_62_49, e_62_52, e_62_53, e_62_54, e_62_55, e_62_58, hn, if_false]
  | j + 1, i, hj => by
    have hn : (nI i < (6 : Int32)) = True := eq_true (nI_lt (b := 6) (by omega) (by omega))
    have hix := inb_nI (j := i) (n := 6) (by omega) (by decide)
    have hix2 := inb_nI (j := i) (n := 16) (by omega) (by decide)
    have hcl := nI_cl (n := i) (by omega)
    rw [e_62_37]
    simp only [e_62_38, e_62_40, e_62_43, e_62_44, e_62_47, e_62_48, e_62_49, e_62_52, e_62_53, e_62_54, e_62_55, e_62_58, rf_56_0 hR, rf_56_4 hR, rf_56_5 hR, rf_56_6 hR, rf_56_7 hR, rf_56_8 hR, rf_56_9 hR, rf_56_10 hR, rf_56_11 hR, rf_56_12 hR, rf_56_14 hR, rf_56_15 hR, rf_56_19 hR, rf_56_20 hR, rf_56_21 hR, rf_56_22 hR, rf_56_23 hR, rf_56_24 hR, rf_56_25 hR, rf_56_26 hR, rf_56_27 hR, rf_56_29 hR, rf_56_32 hR, rf_56_33 hR, rf_56_34 hR, rf_56_37 hR, rf_56_38 hR, kn_56, kn_57, kn_58, kn_59, kn_60, kn_61, kn_62, kn_63, kn_64, kn_65, kn_66, kn_67, kn_68, kn_69, kn_70, kn_71, kn_72, kn_73, kn_74, kn_75, kn_76, kn_77, kn_78, kn_79, kn_80, kn_81, kn_82, kn_83, ln_57, ln_58, ln_59, ln_60, ln_61, ln_62, ln_63, ln_64, ln_65, ln_66, ln_67, ln_68, ln_69, ln_70, ln_71, ln_72, ln_73, ln_74, ln_75, ln_76, ln_77, ln_78, ln_79, ln_80, ln_81, ln_82, ln_83, va_rf_some, push_s, push_n, nb0, nb1, nbb, Nat.reduceLT, hn, if_true, hix, hcl, nI_1, vu, vu_vu, Nat.reduceEqDiff, reduceIte, cpN_step]
    exact m_lay_l1 hR j (i + 1) (by omega)
theorem m_lay_l2 (hR : tRef h d R) {B : Nat → Nat → Int32} : ∀ j i, i + j = 24 → tEv E 62 63 [.ref 56, .int (nI i)] [] (mS (va_up (va_up B 64 (cpN (B 64) (B 76) i)) 65 (cpN (B 65) (B 77) i)) J R) Q = tEv E 62 99 [.ref 56, .int (nI 24)] [] (mS (va_up (va_up B 64 (cpN (B 64) (B 76) 24)) 65 (cpN (B 65) (B 77) 24)) J R) Q
  | 0, i, hj => by
    obtain rfl : i = 24 := by omega
    have hn : (nI 24 < (24 : Int32)) = False := eq_false (by decide)
    rw [e_62_63]
    simp only [e_62_64, e_62_66, e_62_69, e_62_70, e_62_73, e_62_74, e_62_75, e_62_78, e_62_79, e_62_80, e_62_81, e_62_82, e_62_85, e_62_86, e_62_87, e_62_90, e_62_91, e_62_92, e_62_93, e_62_96, hn, if_false]
  | j + 1, i, hj => by
    have hn : (nI i < (24 : Int32)) = True := eq_true (nI_lt (b := 24) (by omega) (by omega))
    have hix := inb_nI (j := i) (n := 24) (by omega) (by decide)
    have hcl := nI_cl (n := i) (by omega)
    rw [e_62_63]
    simp only [e_62_64, e_62_66, e_62_69, e_62_70, e_62_73, e_62_74, e_62_75, e_62_78, e_62_79, e_62_80, e_62_81, e_62_82, e_62_85, e_62_86, e_62_87, e_62_90, e_62_91, e_62_92, e_62_93, e_62_96, rf_56_0 hR, rf_56_4 hR, rf_56_5 hR, rf_56_6 hR, rf_56_7 hR, rf_56_8 hR, rf_56_9 hR, rf_56_10 hR, rf_56_11 hR, rf_56_12 hR, rf_56_14 hR, rf_56_15 hR, rf_56_19 hR, rf_56_20 hR, rf_56_21 hR, rf_56_22 hR, rf_56_23 hR, rf_56_24 hR, rf_56_25 hR, rf_56_26 hR, rf_56_27 hR, rf_56_29 hR, rf_56_32 hR, rf_56_33 hR, rf_56_34 hR, rf_56_37 hR, rf_56_38 hR, kn_56, kn_57, kn_58, kn_59, kn_60, kn_61, kn_62, kn_63, kn_64, kn_65, kn_66, kn_67, kn_68, kn_69, kn_70, kn_71, kn_72, kn_73, kn_74, kn_75, kn_76, kn_77, kn_78, kn_79, kn_80, kn_81, kn_82, kn_83, ln_57, ln_58, ln_59, ln_60, ln_61, ln_62, ln_63, ln_64, ln_65, ln_66, ln_67, ln_68, ln_69, ln_70, ln_71, ln_72, ln_73, ln_74, ln_75, ln_76, ln_77, ln_78, ln_79, ln_80, ln_81, ln_82, ln_83, va_rf_some, push_s, push_n, nb0, nb1, nbb, Nat.reduceLT, hn, if_true, hix, hcl, nI_1]
    rw [vu_comm (va_up B 64 _) (k := 65) (j := 64) (by decide), vu_vu, vu_comm B (k := 64) (j := 65) (by decide), vu_vu, vu_comm B (k := 65) (j := 64) (by decide)]
    simp only [vu, Nat.reduceEqDiff, reduceIte, cpN_step]
    exact m_lay_l2 hR j (i + 1) (by omega)
def lyS (B : Nat → Nat → Int32) (i : Nat) : Nat → Nat → Int32 := ly6 B (cpN (B 59) (B 70) i) (cpN (B 60) (B 71) i) (cpN (B 61) (B 73) i) (cpN (B 62) (B 74) i) (cpN (B 63) (B 75) i) (lyw B i)
theorem lyS_0 (B : Nat → Nat → Int32) : lyS B 0 = B := by
  unfold lyS
  simp only [cpN_0, lyw_0]
  funext k
  unfold ly6
  simp only [vu]
  by_cases h57 : k = 57
  · simp [h57]
  · by_cases h63 : k = 63
    · simp [h63]
    · by_cases h62 : k = 62
      · simp [h62]
      · by_cases h61 : k = 61
        · simp [h61]
        · by_cases h60 : k = 60
          · simp [h60]
          · by_cases h59 : k = 59
            · simp [h59]
            · simp [h57, h63, h62, h61, h60, h59]
theorem lyS_x {B : Nat → Nat → Int32} {i k : Nat} (h : k ≠ 57 ∧ k ≠ 59 ∧ k ≠ 60 ∧ k ≠ 61 ∧ k ≠ 62 ∧ k ≠ 63) : lyS B i k = B k := ly6_x h
theorem m_lay_l3 (hR : tRef h d R) {B : Nat → Nat → Int32} (h3 : B 56 3 = nI nt) (h16 : nt ≤ 16) : ∀ j i, i + j = nt → tEv E 62 101 [.ref 56, .int (nI i)] [] (mS (lyS B i) J R) Q = tEv E 62 238 [.ref 56, .int (nI nt)] [] (mS (lyS B nt) J R) Q
  | 0, i, hj => by
    obtain rfl : i = nt := by omega
    have hn : (nI i < nI i) = False := eq_false Int32.lt_irrefl
    have h3' : lyS B i 56 3 = nI i := h3
    rw [e_62_101]
    simp only [e_62_102, e_62_103, e_62_106, e_62_109, e_62_110, e_62_113, e_62_114, e_62_115, e_62_118, e_62_119, e_62_120, e_62_121, e_62_122, e_62_125, e_62_126, e_62_127, e_62_130, e_62_131, e_62_132, e_62_133, e_62_134, e_62_137, e_62_138, e_62_139, e_62_142, e_62_143, e_62_144, e_62_145, e_62_146, e_62_149, e_62_150, e_62_151, e_62_154, e_62_155, e_62_156, e_62_157, e_62_158, e_62_161, e_62_162, e_62_163, e_62_166, e_62_167, e_62_168, e_62_169, e_62_170, e_62_173, e_62_174, e_62_175, e_62_176, e_62_177, e_62_180, e_62_181, e_62_182, e_62_183, e_62_184, e_62_187, e_62_189, e_62_190, e_62_191, e_62_192, e_62_193, e_62_195, e_62_198, e_62_201, e_62_202, e_62_205, e_62_206, e_62_207, e_62_208, e_62_211, e_62_213, e_62_214, e_62_215, e_62_216, e_62_217, e_62_219, e_62_222, e_62_225, e_62_227, e_62_230, e_62_231, e_62_232, e_62_235, rf_56_0 hR, rf_56_4 hR, rf_56_5 hR, rf_56_6 hR, rf_56_7 hR, rf_56_8 hR, rf_56_9 hR, rf_56_10 hR, rf_56_11 hR, rf_56_12 hR, rf_56_14 hR, rf_56_15 hR, rf_56_19 hR, rf_56_20 hR, rf_56_21 hR, rf_56_22 hR, rf_56_23 hR, rf_56_24 hR, rf_56_25 hR, rf_56_26 hR, rf_56_27 hR, rf_56_29 hR, rf_56_32 hR, rf_56_33 hR, rf_56_34 hR, rf_56_37 hR, rf_56_38 hR, kn_56, kn_57, kn_58, kn_59, kn_60, kn_61, kn_62, kn_63, kn_64, kn_65, kn_66, kn_67, kn_68, kn_69, kn_70, kn_71, kn_72, kn_73, kn_74, kn_75, kn_76, kn_77, kn_78, kn_79, kn_80, kn_81, kn_82, kn_83, ln_57, ln_58, ln_59, ln_60, ln_61, ln_62, ln_63, ln_64, ln_65, ln_66, ln_67, ln_68, ln_69, ln_70, ln_71, ln_72, ln_73, ln_74, ln_75, ln_76, ln_77, ln_78, ln_79, ln_80, ln_81, ln_82, ln_83, va_rf_some, push_s, push_n, nb0, nb1, nbb, Nat.reduceLT, h3', hn, if_false]
  | j + 1, i, hj => by
    have hn : (nI i < nI nt) = True := eq_true (nI_lt (by omega) (by omega))
    have hix := inb_nI (j := i) (n := 16) (by omega) (by decide)
    have hcl := nI_cl (n := i) (by omega)
    have hixw := inb_nI (j := i) (n := 468) (by omega) (by decide)
    have hixs := inb_nI (j := 16 + i) (n := 468) (by omega) (by decide)
    have hcls := nI_cl (n := 16 + i) (by omega)
    have hixo := inb_nI (j := 32 + i) (n := 468) (by omega) (by decide)
    have hclo := nI_cl (n := 32 + i) (by omega)
    have hz : (0 : Int32) + nI i = nI i := Int32.zero_add _
    have e16 : (16 : Int32) + nI i = nI (16 + i) := nI_add 16 i
    have e32 : (32 : Int32) + nI i = nI (32 + i) := nI_add 32 i
    have h3' : lyS B i 56 3 = nI nt := h3
    have g70 : lyS B i 70 = B 70 := lyS_x (by decide)
    have g71 : lyS B i 71 = B 71 := lyS_x (by decide)
    have g72 : lyS B i 72 = B 72 := lyS_x (by decide)
    have g73 : lyS B i 73 = B 73 := lyS_x (by decide)
    have g74 : lyS B i 74 = B 74 := lyS_x (by decide)
    have g75 : lyS B i 75 = B 75 := lyS_x (by decide)
    have g59 : lyS B i 59 = cpN (B 59) (B 70) i := rfl
    have g60 : lyS B i 60 = cpN (B 60) (B 71) i := rfl
    have g61 : lyS B i 61 = cpN (B 61) (B 73) i := rfl
    have g62 : lyS B i 62 = cpN (B 62) (B 74) i := rfl
    have g63 : lyS B i 63 = cpN (B 63) (B 75) i := rfl
    have g57 : lyS B i 57 = lyw B i := rfl
    have gt : cpN (B 62) (B 74) (i + 1) i = B 74 i := if_pos (by omega)
    have hs := lyw_step B (show i < 16 by omega)
    have hfin : ∀ F, F = lyw B (i + 1) → va_up (va_up (va_up (va_up (va_up (va_up (lyS B i) 59 (cpN (B 59) (B 70) (i + 1))) 60 (cpN (B 60) (B 71) (i + 1))) 61 (cpN (B 61) (B 73) (i + 1))) 62 (cpN (B 62) (B 74) (i + 1))) 63 (cpN (B 63) (B 75) (i + 1))) 57 F = lyS B (i + 1) := by
      intro F hF
      rw [hF]
      exact ly6_ly6 _ _ _ _ _ _ _ _ _ _ _ _ _
    have ih := m_lay_l3 hR h3 h16 j (i + 1) (by omega)
    rw [e_62_101]
    simp only [e_62_102, e_62_103, e_62_106, e_62_109, e_62_110, e_62_113, e_62_114, e_62_115, e_62_118, e_62_119, e_62_120, e_62_121, e_62_122, e_62_125, e_62_126, e_62_127, e_62_130, e_62_131, e_62_132, e_62_133, e_62_134, e_62_137, e_62_138, e_62_139, e_62_142, e_62_143, e_62_144, e_62_145, e_62_146, e_62_149, e_62_150, e_62_151, e_62_154, e_62_155, e_62_156, e_62_157, e_62_158, e_62_161, e_62_162, e_62_163, e_62_166, e_62_167, e_62_168, e_62_169, e_62_170, e_62_173, e_62_174, e_62_175, e_62_176, e_62_177, e_62_180, e_62_181, e_62_182, e_62_183, e_62_184, e_62_187, e_62_189, e_62_190, e_62_191, e_62_192, e_62_193, e_62_195, e_62_198, e_62_201, e_62_202, e_62_205, e_62_206, e_62_207, e_62_208, e_62_211, e_62_213, e_62_214, e_62_215, e_62_216, e_62_217, e_62_219, e_62_222, e_62_225, e_62_227, e_62_230, e_62_231, e_62_232, e_62_235, rf_56_0 hR, rf_56_4 hR, rf_56_5 hR, rf_56_6 hR, rf_56_7 hR, rf_56_8 hR, rf_56_9 hR, rf_56_10 hR, rf_56_11 hR, rf_56_12 hR, rf_56_14 hR, rf_56_15 hR, rf_56_19 hR, rf_56_20 hR, rf_56_21 hR, rf_56_22 hR, rf_56_23 hR, rf_56_24 hR, rf_56_25 hR, rf_56_26 hR, rf_56_27 hR, rf_56_29 hR, rf_56_32 hR, rf_56_33 hR, rf_56_34 hR, rf_56_37 hR, rf_56_38 hR, kn_56, kn_57, kn_58, kn_59, kn_60, kn_61, kn_62, kn_63, kn_64, kn_65, kn_66, kn_67, kn_68, kn_69, kn_70, kn_71, kn_72, kn_73, kn_74, kn_75, kn_76, kn_77, kn_78, kn_79, kn_80, kn_81, kn_82, kn_83, ln_57, ln_58, ln_59, ln_60, ln_61, ln_62, ln_63, ln_64, ln_65, ln_66, ln_67, ln_68, ln_69, ln_70, ln_71, ln_72, ln_73, ln_74, ln_75, ln_76, ln_77, ln_78, ln_79, ln_80, ln_81, ln_82, ln_83, va_rf_some, push_s, push_n, nb0, nb1, nbb, Nat.reduceLT, h3', hn, if_true, hix, hcl, hixw, hixs, hcls, hixo, hclo, hz, e16, e32, g70, g71, g72, g73, g74, g75, g59, g60, g61, g62, g63, g57, vu, vu_vu, Nat.reduceEqDiff, reduceIte, cpN_step, m_isTrait hR (show i < 16 by omega), gt, b2i_0, Bool.not_eq_false', decide_eq_true_eq, nI_1]
    by_cases c1 : B 74 i &&& 32 = 0
    · rw [if_pos c1] at hs ⊢
      by_cases c2 : B 74 i &&& 16 = 0
      · rw [if_pos c2] at hs ⊢
        rw [hfin _ hs]
        exact ih
      · rw [if_neg c2] at hs ⊢
        rw [hfin _ hs]
        exact ih
    · rw [if_neg c1] at hs ⊢
      by_cases c2 : B 74 i &&& 16 = 0
      · rw [if_pos c2] at hs ⊢
        rw [hfin _ hs]
        exact ih
      · rw [if_neg c2] at hs ⊢
        rw [hfin _ hs]
        exact ih
/-- the house laid: from what is read -/
def laid (I : Nat → Nat → Int32) (nr nt : Nat) : Nat → Nat → Int32 :=
  let A := va_up I 56 (upd (upd (I 56) 2 (nI nr)) 3 (nI nt))
  let B := va_up A 58 (cpN (A 58) (A 69) 6)
  let C := va_up (va_up B 64 (cpN (B 64) (B 76) 24)) 65 (cpN (B 65) (B 77) 24)
  let D := va_up (lyS C nt) 57 (upd (upd (upd (upd (lyw C nt) 48 0) 49 0) 50 (-4)) 51 0)
  va_up D 56 (upd (upd (D 56) 1 0) 35 0)
theorem m_lay_0 (hR : tRef h d R) (hT : TX I n tc) {b : Nat} {I' : Nat → Nat → Int32} {nr' nt' : Nat} (he : rds n tc (n + 1) (rd0 I) 0 0 0 = (some b, I', nr', nt')) (hb : b < 1000) : ∃ I2, frM I I2 ∧ ∀ Q, tEv E 62 0 [.ref 56, tm_dum] [] (mS I J R) Q = Q (some (-2)) (mS I2 J R) := by
  obtain ⟨I2, hf, hq⟩ := m_fault_0 (E := E) (J := J) hR hT he
  have e4 : (nI b = -4) = False := eq_false (nI_n4 (by omega))
  refine ⟨I2, hf, fun Q => ?_⟩
  simp only [e_62_0, e_62_1, e_62_4, e_62_6, e_62_9, e_62_10, e_62_13, e_62_16, e_62_18, rf_56_0 hR, rf_56_4 hR, rf_56_5 hR, rf_56_6 hR, rf_56_7 hR, rf_56_8 hR, rf_56_9 hR, rf_56_10 hR, rf_56_11 hR, rf_56_12 hR, rf_56_14 hR, rf_56_15 hR, rf_56_19 hR, rf_56_20 hR, rf_56_21 hR, rf_56_22 hR, rf_56_23 hR, rf_56_24 hR, rf_56_25 hR, rf_56_26 hR, rf_56_27 hR, rf_56_29 hR, rf_56_32 hR, rf_56_33 hR, rf_56_34 hR, rf_56_37 hR, rf_56_38 hR, kn_56, kn_57, kn_58, kn_59, kn_60, kn_61, kn_62, kn_63, kn_64, kn_65, kn_66, kn_67, kn_68, kn_69, kn_70, kn_71, kn_72, kn_73, kn_74, kn_75, kn_76, kn_77, kn_78, kn_79, kn_80, kn_81, kn_82, kn_83, ln_57, ln_58, ln_59, ln_60, ln_61, ln_62, ln_63, ln_64, ln_65, ln_66, ln_67, ln_68, ln_69, ln_70, ln_71, ln_72, ln_73, ln_74, ln_75, ln_76, ln_77, ln_78, ln_79, ln_80, ln_81, ln_82, ln_83, va_rf_some, push_s, push_n, nb0, nb1, nbb, Nat.reduceLT, hq, e4, if_false]
theorem m_lay_1 (hR : tRef h d R) (hT : TX I n tc) {I' : Nat → Nat → Int32} {nt' : Nat} (he : rds n tc (n + 1) (rd0 I) 0 0 0 = (none, I', 0, nt')) : tEv E 62 0 [.ref 56, tm_dum] [] (mS I J R) Q = Q (some (-2)) (mS (hr I' n) J R) := by
  have hq := fun {Q} => m_fault_1 (E := E) (Q := Q) (J := J) hR hT he
  have hk := (m_rds_1 (E := E) (J := J) hR (n + 1) (rd0 I) 0 0 0 (by omega) (by omega) (TX_fr (frM_rd0 I) hT) ⟨rfl, by decide, rfl, by decide⟩ I' 0 nt' he).1.1
  have e0 : I' 56 17 = 0 := hk.1
  simp only [e_62_0, e_62_1, e_62_4, e_62_6, e_62_9, e_62_10, e_62_13, e_62_16, e_62_18, rf_56_0 hR, rf_56_4 hR, rf_56_5 hR, rf_56_6 hR, rf_56_7 hR, rf_56_8 hR, rf_56_9 hR, rf_56_10 hR, rf_56_11 hR, rf_56_12 hR, rf_56_14 hR, rf_56_15 hR, rf_56_19 hR, rf_56_20 hR, rf_56_21 hR, rf_56_22 hR, rf_56_23 hR, rf_56_24 hR, rf_56_25 hR, rf_56_26 hR, rf_56_27 hR, rf_56_29 hR, rf_56_32 hR, rf_56_33 hR, rf_56_34 hR, rf_56_37 hR, rf_56_38 hR, kn_56, kn_57, kn_58, kn_59, kn_60, kn_61, kn_62, kn_63, kn_64, kn_65, kn_66, kn_67, kn_68, kn_69, kn_70, kn_71, kn_72, kn_73, kn_74, kn_75, kn_76, kn_77, kn_78, kn_79, kn_80, kn_81, kn_82, kn_83, ln_57, ln_58, ln_59, ln_60, ln_61, ln_62, ln_63, ln_64, ln_65, ln_66, ln_67, ln_68, ln_69, ln_70, ln_71, ln_72, ln_73, ln_74, ln_75, ln_76, ln_77, ln_78, ln_79, ln_80, ln_81, ln_82, ln_83, va_rf_some, push_s, push_n, nb0, nb1, nbb, Nat.reduceLT, hr_c66, hr_c69, hr_c70, hr_c71, hr_c72, hr_c73, hr_c74, hr_c75, hr_c76, hr_c77, hr_u69, hr_u70, hr_u71, hr_u72, hr_u73, hr_u74, hr_u75, hr_u76, hr_u77, hr_k13, hr_k17, hr_k18, hr_k28, hr_s17, hr_s18, hr_s28, hr_16, hr_set, hq, if_true, e0]
theorem m_lay_2 (hR : tRef h d R) (hT : TX I n tc) {I' : Nat → Nat → Int32} {nr' nt' : Nat} (he : rds n tc (n + 1) (rd0 I) 0 0 0 = (none, I', nr', nt')) (h0 : 0 < nr') : tEv E 62 0 [.ref 56, tm_dum] [] (mS I J R) Q = Q (some (nI nr')) (mS (laid (hr I' n) nr' nt') J R) := by
  have hq := fun {Q} => m_fault_1 (E := E) (Q := Q) (J := J) hR hT he
  have hk := (m_rds_1 (E := E) (J := J) hR (n + 1) (rd0 I) 0 0 0 (by omega) (by omega) (TX_fr (frM_rd0 I) hT) ⟨rfl, by decide, rfl, by decide⟩ I' nr' nt' he).1.1
  have e17 : hr I' n 56 17 = nI nr' := hk.1
  have e18 : hr I' n 56 18 = nI nt' := hk.2.2.1
  have e0 : (nI nr' = 0) = False := eq_false (nI_ne0 h0 (by have := hk.2.1; omega))
  have l1 := fun {B Q} => m_lay_l1 (E := E) (Q := Q) (J := J) (B := B) hR 6 0 rfl
  have l2 := fun {B Q} => m_lay_l2 (E := E) (Q := Q) (J := J) (B := B) hR 24 0 rfl
  simp only [cpN_0, vu_self, show nI 0 = (0 : Int32) from rfl] at l1
  simp only [cpN_0, show nI 0 = (0 : Int32) from rfl] at l2
  have e2 : ∀ B : Nat → Nat → Int32, va_up (va_up B 64 (B 64)) 65 (B 65) = B := fun B => by
    funext k
    simp only [vu]
    by_cases h1 : k = 65
    · simp [h1]
    · by_cases h2 : k = 64
      · simp [h2]
      · simp [h1, h2]
  simp only [e2] at l2
  have l3 := fun {B Q} (hB : B 56 3 = nI nt') => m_lay_l3 (E := E) (Q := Q) (J := J) (B := B) hR hB hk.2.2.2 nt' 0 (by omega)
  simp only [lyS_0, show nI 0 = (0 : Int32) from rfl] at l3
  simp only [e_62_0, e_62_1, e_62_4, e_62_6, e_62_9, e_62_10, e_62_13, e_62_16, e_62_18, e_62_19, e_62_20, e_62_21, e_62_24, e_62_27, e_62_28, e_62_29, e_62_32, e_62_35, e_62_36, rf_56_0 hR, rf_56_4 hR, rf_56_5 hR, rf_56_6 hR, rf_56_7 hR, rf_56_8 hR, rf_56_9 hR, rf_56_10 hR, rf_56_11 hR, rf_56_12 hR, rf_56_14 hR, rf_56_15 hR, rf_56_19 hR, rf_56_20 hR, rf_56_21 hR, rf_56_22 hR, rf_56_23 hR, rf_56_24 hR, rf_56_25 hR, rf_56_26 hR, rf_56_27 hR, rf_56_29 hR, rf_56_32 hR, rf_56_33 hR, rf_56_34 hR, rf_56_37 hR, rf_56_38 hR, kn_56, kn_57, kn_58, kn_59, kn_60, kn_61, kn_62, kn_63, kn_64, kn_65, kn_66, kn_67, kn_68, kn_69, kn_70, kn_71, kn_72, kn_73, kn_74, kn_75, kn_76, kn_77, kn_78, kn_79, kn_80, kn_81, kn_82, kn_83, ln_57, ln_58, ln_59, ln_60, ln_61, ln_62, ln_63, ln_64, ln_65, ln_66, ln_67, ln_68, ln_69, ln_70, ln_71, ln_72, ln_73, ln_74, ln_75, ln_76, ln_77, ln_78, ln_79, ln_80, ln_81, ln_82, ln_83, va_rf_some, push_s, push_n, nb0, nb1, nbb, Nat.reduceLT, hq, show ((-4 : Int32) = -4) = True from eq_true rfl, if_true, e17, e0, if_false, e18, vu, ud, vu_vu, Nat.reduceEqDiff, reduceIte]
  refine l1.trans ?_
  simp only [e_62_61, e_62_62, rf_56_0 hR, rf_56_4 hR, rf_56_5 hR, rf_56_6 hR, rf_56_7 hR, rf_56_8 hR, rf_56_9 hR, rf_56_10 hR, rf_56_11 hR, rf_56_12 hR, rf_56_14 hR, rf_56_15 hR, rf_56_19 hR, rf_56_20 hR, rf_56_21 hR, rf_56_22 hR, rf_56_23 hR, rf_56_24 hR, rf_56_25 hR, rf_56_26 hR, rf_56_27 hR, rf_56_29 hR, rf_56_32 hR, rf_56_33 hR, rf_56_34 hR, rf_56_37 hR, rf_56_38 hR, kn_56, kn_57, kn_58, kn_59, kn_60, kn_61, kn_62, kn_63, kn_64, kn_65, kn_66, kn_67, kn_68, kn_69, kn_70, kn_71, kn_72, kn_73, kn_74, kn_75, kn_76, kn_77, kn_78, kn_79, kn_80, kn_81, kn_82, kn_83, ln_57, ln_58, ln_59, ln_60, ln_61, ln_62, ln_63, ln_64, ln_65, ln_66, ln_67, ln_68, ln_69, ln_70, ln_71, ln_72, ln_73, ln_74, ln_75, ln_76, ln_77, ln_78, ln_79, ln_80, ln_81, ln_82, ln_83, va_rf_some, push_s, push_n, nb0, nb1, nbb, Nat.reduceLT]
  refine l2.trans ?_
  simp only [e_62_99, e_62_100, rf_56_0 hR, rf_56_4 hR, rf_56_5 hR, rf_56_6 hR, rf_56_7 hR, rf_56_8 hR, rf_56_9 hR, rf_56_10 hR, rf_56_11 hR, rf_56_12 hR, rf_56_14 hR, rf_56_15 hR, rf_56_19 hR, rf_56_20 hR, rf_56_21 hR, rf_56_22 hR, rf_56_23 hR, rf_56_24 hR, rf_56_25 hR, rf_56_26 hR, rf_56_27 hR, rf_56_29 hR, rf_56_32 hR, rf_56_33 hR, rf_56_34 hR, rf_56_37 hR, rf_56_38 hR, kn_56, kn_57, kn_58, kn_59, kn_60, kn_61, kn_62, kn_63, kn_64, kn_65, kn_66, kn_67, kn_68, kn_69, kn_70, kn_71, kn_72, kn_73, kn_74, kn_75, kn_76, kn_77, kn_78, kn_79, kn_80, kn_81, kn_82, kn_83, ln_57, ln_58, ln_59, ln_60, ln_61, ln_62, ln_63, ln_64, ln_65, ln_66, ln_67, ln_68, ln_69, ln_70, ln_71, ln_72, ln_73, ln_74, ln_75, ln_76, ln_77, ln_78, ln_79, ln_80, ln_81, ln_82, ln_83, va_rf_some, push_s, push_n, nb0, nb1, nbb, Nat.reduceLT]
  refine (l3 (by rfl)).trans ?_
  have h48 : tm_inb 48 468 = true := by decide
  have hc48 : (48 : Int32).toNatClampNeg = 48 := by decide
  have h49 : tm_inb 49 468 = true := by decide
  have hc49 : (49 : Int32).toNatClampNeg = 49 := by decide
  have h50 : tm_inb 50 468 = true := by decide
  have hc50 : (50 : Int32).toNatClampNeg = 50 := by decide
  have h51 : tm_inb 51 468 = true := by decide
  have hc51 : (51 : Int32).toNatClampNeg = 51 := by decide
  simp only [e_62_238, e_62_239, e_62_242, e_62_244, e_62_245, e_62_246, e_62_247, e_62_250, e_62_252, e_62_253, e_62_254, e_62_255, e_62_258, e_62_260, e_62_262, e_62_263, e_62_264, e_62_267, e_62_269, e_62_270, e_62_271, e_62_272, e_62_273, e_62_276, e_62_277, e_62_278, e_62_281, e_62_282, e_62_285, rf_56_0 hR, rf_56_4 hR, rf_56_5 hR, rf_56_6 hR, rf_56_7 hR, rf_56_8 hR, rf_56_9 hR, rf_56_10 hR, rf_56_11 hR, rf_56_12 hR, rf_56_14 hR, rf_56_15 hR, rf_56_19 hR, rf_56_20 hR, rf_56_21 hR, rf_56_22 hR, rf_56_23 hR, rf_56_24 hR, rf_56_25 hR, rf_56_26 hR, rf_56_27 hR, rf_56_29 hR, rf_56_32 hR, rf_56_33 hR, rf_56_34 hR, rf_56_37 hR, rf_56_38 hR, kn_56, kn_57, kn_58, kn_59, kn_60, kn_61, kn_62, kn_63, kn_64, kn_65, kn_66, kn_67, kn_68, kn_69, kn_70, kn_71, kn_72, kn_73, kn_74, kn_75, kn_76, kn_77, kn_78, kn_79, kn_80, kn_81, kn_82, kn_83, ln_57, ln_58, ln_59, ln_60, ln_61, ln_62, ln_63, ln_64, ln_65, ln_66, ln_67, ln_68, ln_69, ln_70, ln_71, ln_72, ln_73, ln_74, ln_75, ln_76, ln_77, ln_78, ln_79, ln_80, ln_81, ln_82, ln_83, va_rf_some, push_s, push_n, nb0, nb1, nbb, Nat.reduceLT, h48, hc48, h49, hc49, h50, hc50, h51, hc51, vu_eq, vu_vu]
  rfl
end LY
