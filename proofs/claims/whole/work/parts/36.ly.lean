/-! ===== the model: reads, fault, lay ===== -/
def cpN (f g : Nat → Int32) (n k : Nat) : Int32 := if k < n then g k else f k
theorem cpN_0 (f g : Nat → Int32) : cpN f g 0 = f := by
  funext k
  unfold cpN
  rw [if_neg (by omega)]
theorem cpN_step (f g : Nat → Int32) (i : Nat) : upd (cpN f g i) i (g i) = cpN f g (i + 1) := by
  funext k
  rw [ud]
  unfold cpN
  by_cases e : k = i
  · subst e
    rw [if_pos rfl, if_pos (by omega)]
  · rw [if_neg e]
    by_cases e2 : k < i
    · rw [if_pos e2, if_pos (by omega)]
    · rw [if_neg e2, if_neg (by omega)]
def lyw (I : Nat → Nat → Int32) (n q : Nat) : Int32 :=
  if q < n then I 72 q else if 16 ≤ q ∧ q < 16 + n then (if I 74 (q - 16) &&& 32 = 0 then 0 else 2) else if 32 ≤ q ∧ q < 32 + n then (if I 74 (q - 32) &&& 16 = 0 then 0 else 20) else I 57 q
theorem lyw_0 (I : Nat → Nat → Int32) : lyw I 0 = I 57 := by
  funext q
  unfold lyw
  rw [if_neg (by omega), if_neg (by omega), if_neg (by omega)]
theorem lyw_step (I : Nat → Nat → Int32) {i : Nat} (hi : i < 16) : upd (upd (upd (lyw I i) i (I 72 i)) (16 + i) (if I 74 i &&& 32 = 0 then 0 else 2)) (32 + i) (if I 74 i &&& 16 = 0 then 0 else 20) = lyw I (i + 1) := by
  funext q
  rw [ud, ud, ud]
  unfold lyw
  by_cases e1 : q = 32 + i
  · subst e1
    rw [if_pos rfl, if_neg (show ¬ 32 + i < i + 1 by omega), if_neg (show ¬ (16 ≤ 32 + i ∧ 32 + i < 16 + (i + 1)) by omega), if_pos (show 32 ≤ 32 + i ∧ 32 + i < 32 + (i + 1) by omega), show 32 + i - 32 = i by omega]
  · rw [if_neg e1]
    by_cases e2 : q = 16 + i
    · subst e2
      rw [if_pos rfl, if_neg (show ¬ 16 + i < i + 1 by omega), if_pos (show 16 ≤ 16 + i ∧ 16 + i < 16 + (i + 1) by omega), show 16 + i - 16 = i by omega]
    · rw [if_neg e2]
      by_cases e3 : q = i
      · subst e3
        rw [if_pos rfl, if_pos (by omega)]
      · rw [if_neg e3]
        have a1 : (q < i) ↔ (q < i + 1) := by omega
        have a2 : (16 ≤ q ∧ q < 16 + i) ↔ (16 ≤ q ∧ q < 16 + (i + 1)) := by omega
        have a3 : (32 ≤ q ∧ q < 32 + i) ↔ (32 ≤ q ∧ q < 32 + (i + 1)) := by omega
        simp only [a1, a2, a3]
/-- the things laid, up to i -/
def ly6 (I0 : Nat → Nat → Int32) (a b c e f g : Nat → Int32) : Nat → Nat → Int32 := va_up (va_up (va_up (va_up (va_up (va_up I0 59 a) 60 b) 61 c) 62 e) 63 f) 57 g
theorem ly6_ly6 (I0 : Nat → Nat → Int32) (a b c e f g a' b' c' e' f' g' : Nat → Int32) : va_up (va_up (va_up (va_up (va_up (va_up (ly6 I0 a b c e f g) 59 a') 60 b') 61 c') 62 e') 63 f') 57 g' = ly6 I0 a' b' c' e' f' g' := by
  funext k
  unfold ly6
  simp only [vu]
  by_cases h57 : k = 57
  · simp [h57]
  · by_cases h63 : k = 63
    · simp [h63]
    · by_cases h62 : k = 62
      · simp [h62]
      · by_cases h61 : k = 61
        · simp [h61]
        · by_cases h60 : k = 60
          · simp [h60]
          · by_cases h59 : k = 59
            · simp [h59]
            · simp [h57, h63, h62, h61, h60, h59]
theorem ly6_59 {I0 : Nat → Nat → Int32} {a b c e f g : Nat → Int32} : ly6 I0 a b c e f g 59 = a := Eq.trans rfl rfl
theorem ly6_60 {I0 : Nat → Nat → Int32} {a b c e f g : Nat → Int32} : ly6 I0 a b c e f g 60 = b := Eq.trans rfl rfl
theorem ly6_61 {I0 : Nat → Nat → Int32} {a b c e f g : Nat → Int32} : ly6 I0 a b c e f g 61 = c := Eq.trans rfl rfl
theorem ly6_62 {I0 : Nat → Nat → Int32} {a b c e f g : Nat → Int32} : ly6 I0 a b c e f g 62 = e := Eq.trans rfl rfl
theorem ly6_63 {I0 : Nat → Nat → Int32} {a b c e f g : Nat → Int32} : ly6 I0 a b c e f g 63 = f := Eq.trans rfl rfl
theorem ly6_57 {I0 : Nat → Nat → Int32} {a b c e f g : Nat → Int32} : ly6 I0 a b c e f g 57 = g := Eq.trans rfl rfl
theorem ly6_x {I0 : Nat → Nat → Int32} {a b c e f g : Nat → Int32} {k : Nat} (h : k ≠ 57 ∧ k ≠ 59 ∧ k ≠ 60 ∧ k ≠ 61 ∧ k ≠ 62 ∧ k ≠ 63) : ly6 I0 a b c e f g k = I0 k := by
  unfold ly6
  simp only [vu]
  simp [h]
section LY
variable {E : tm_Env} {Q : Option Int32 → tm_St → Prop} {I : Nat → Nat → Int32} {J : Nat → Nat → Int64} {R : Nat → Nat → Option Nat} {h d : Nat} {nr nt n p : Nat} {tc : Nat → Nat}
theorem m_reads_loop (hR : tRef h d R) {A a b : Nat → Int32} {l2 l3 : Value} : ∀ j i, i + j = 24 → tEv E 60 22 [.ref 56, .int (nI i), l2, l3] [] (mS (va_up (va_up (va_up I 56 A) 76 (fun k => if k < i then -4 else a k)) 77 (fun k => if k < i then -4 else b k)) J R) Q = tEv E 60 50 [.ref 56, .int (nI 24), l2, l3] [] (mS (va_up (va_up (va_up I 56 A) 76 (fun k => if k < 24 then -4 else a k)) 77 (fun k => if k < 24 then -4 else b k)) J R) Q
  | 0, i, hj => by
    obtain rfl : i = 24 := by omega
    have hn : (nI 24 < (24 : Int32)) = False := eq_false (by decide)
    rw [e_60_22]
    simp only [e_60_23, e_60_25, e_60_28, e_60_29, e_60_32, e_60_33, e_60_35, e_60_36, e_60_37, e_60_40, e_60_41, e_60_43, e_60_44, e_60_47, hn, if_false]
  | j + 1, i, hj => by
    have hn : (nI i < (24 : Int32)) = True := eq_true (nI_lt (b := 24) (by omega) (by omega))
    have hix := inb_nI (j := i) (n := 24) (by omega) (by decide)
    have hcl := nI_cl (n := i) (by omega)
    have key : ∀ a : Nat → Int32, upd (fun k => if k < i then -4 else a k) i (-4) = (fun k => if k < i + 1 then -4 else a k) := by
      intro a
      funext q
      rw [ud]
      by_cases e : q = i
      · subst e
        rw [if_pos rfl, if_pos (by omega)]
      · rw [if_neg e]
        by_cases e2 : q < i
        · have e3 : q < i + 1 := by omega
          simp only [e2, e3, if_true]
        · have e3 : ¬ q < i + 1 := by omega
          simp only [e2, e3, if_false]
    rw [e_60_22]
    simp only [e_60_23, e_60_25, e_60_28, e_60_29, e_60_32, e_60_33, e_60_35, e_60_36, e_60_37, e_60_40, e_60_41, e_60_43, e_60_44, e_60_47, rf_56_0 hR, rf_56_4 hR, rf_56_5 hR, rf_56_6 hR, rf_56_7 hR, rf_56_8 hR, rf_56_9 hR, rf_56_10 hR, rf_56_11 hR, rf_56_12 hR, rf_56_14 hR, rf_56_15 hR, rf_56_19 hR, rf_56_20 hR, rf_56_21 hR, rf_56_22 hR, rf_56_23 hR, rf_56_24 hR, rf_56_25 hR, rf_56_26 hR, rf_56_27 hR, rf_56_29 hR, rf_56_32 hR, rf_56_33 hR, rf_56_34 hR, rf_56_37 hR, rf_56_38 hR, kn_56, kn_57, kn_58, kn_59, kn_60, kn_61, kn_62, kn_63, kn_64, kn_65, kn_66, kn_67, kn_68, kn_69, kn_70, kn_71, kn_72, kn_73, kn_74, kn_75, kn_76, kn_77, kn_78, kn_79, kn_80, kn_81, kn_82, kn_83, ln_57, ln_58, ln_59, ln_60, ln_61, ln_62, ln_63, ln_64, ln_65, ln_66, ln_67, ln_68, ln_69, ln_70, ln_71, ln_72, ln_73, ln_74, ln_75, ln_76, ln_77, ln_78, ln_79, ln_80, ln_81, ln_82, ln_83, va_rf_some, push_s, push_n, nb0, nb1, nbb, Nat.reduceLT, hn, if_true, hix, hcl, nI_1]
    rw [vu_comm (va_up (va_up I 56 A) 76 _) (k := 77) (j := 76) (by decide), vu_vu, vu_comm (va_up I 56 A) (k := 76) (j := 77) (by decide), vu_vu, vu_comm (va_up I 56 A) (k := 77) (j := 76) (by decide)]
    simp only [vu, Nat.reduceEqDiff, reduceIte, key]
    exact m_reads_loop hR j (i + 1) (by omega)
theorem m_reads0 (hR : tRef h d R) : tEv E 60 0 [.ref 56, tm_dum, tm_dum, tm_dum] [] (mS I J R) Q = tEv E 60 50 [.ref 56, .int (nI 24), tm_dum, tm_dum] [] (mS (hr (rd0 I) 0) J R) Q := by
  have hl := fun {A Q} => m_reads_loop (E := E) (Q := Q) (J := J) (I := I) (A := A) (a := I 76) (b := I 77) (l2 := tm_dum) (l3 := tm_dum) hR 24 0 rfl
  have e0 : ∀ a : Nat → Int32, (fun k => if k < 0 then -4 else a k) = a := fun a => by
    funext k
    rw [if_neg (by omega)]
  have e1 : ∀ A, va_up (va_up (va_up I 56 A) 76 (I 76)) 77 (I 77) = va_up I 56 A := fun A => by
    funext k
    simp only [vu]
    by_cases h1 : k = 77
    · simp [h1]
    · by_cases h2 : k = 76
      · simp [h2]
      · simp [h1, h2]
  simp only [e0, e1] at hl
  have e : va_up (va_up (va_up I 56 (upd (upd (upd (upd (I 56) 16 0) 17 0) 18 0) 28 0)) 76 (fun k => if k < 24 then -4 else I 76 k)) 77 (fun k => if k < 24 then -4 else I 77 k) = hr (rd0 I) 0 := by
    unfold hr rd0
    funext k
    simp only [vu]
    by_cases h1 : k = 77
    · simp [h1]
    · by_cases h2 : k = 76
      · simp [h2]
      · by_cases h3 : k = 56
        · subst h3
          simp only [reduceIte, Nat.reduceEqDiff]
          funext j
          simp only [ud]
          by_cases a1 : j = 16
          · subst a1; rfl
          · by_cases a2 : j = 17
            · subst a2; rfl
            · by_cases a3 : j = 18
              · subst a3; rfl
              · by_cases a4 : j = 28
                · subst a4; rfl
                · simp [a1, a2, a3, a4]
        · simp [h1, h2, h3]
  simp only [e_60_0, e_60_1, e_60_2, e_60_5, e_60_6, e_60_7, e_60_10, e_60_11, e_60_12, e_60_15, e_60_16, e_60_17, e_60_20, e_60_21, rf_56_0 hR, rf_56_4 hR, rf_56_5 hR, rf_56_6 hR, rf_56_7 hR, rf_56_8 hR, rf_56_9 hR, rf_56_10 hR, rf_56_11 hR, rf_56_12 hR, rf_56_14 hR, rf_56_15 hR, rf_56_19 hR, rf_56_20 hR, rf_56_21 hR, rf_56_22 hR, rf_56_23 hR, rf_56_24 hR, rf_56_25 hR, rf_56_26 hR, rf_56_27 hR, rf_56_29 hR, rf_56_32 hR, rf_56_33 hR, rf_56_34 hR, rf_56_37 hR, rf_56_38 hR, kn_56, kn_57, kn_58, kn_59, kn_60, kn_61, kn_62, kn_63, kn_64, kn_65, kn_66, kn_67, kn_68, kn_69, kn_70, kn_71, kn_72, kn_73, kn_74, kn_75, kn_76, kn_77, kn_78, kn_79, kn_80, kn_81, kn_82, kn_83, ln_57, ln_58, ln_59, ln_60, ln_61, ln_62, ln_63, ln_64, ln_65, ln_66, ln_67, ln_68, ln_69, ln_70, ln_71, ln_72, ln_73, ln_74, ln_75, ln_76, ln_77, ln_78, ln_79, ln_80, ln_81, ln_82, ln_83, va_rf_some, push_s, push_n, nb0, nb1, nbb, Nat.reduceLT, vu_vu, vu_eq]
  refine hl.trans ?_
  rw [e]
/-- fault: where, or none -/
theorem m_fault_1 (hR : tRef h d R) (hT : TX I n tc) {I' : Nat → Nat → Int32} {nr' nt' : Nat} (he : rds n tc (n + 1) (rd0 I) 0 0 0 = (none, I', nr', nt')) : tEv E 60 0 [.ref 56, tm_dum, tm_dum, tm_dum] [] (mS I J R) Q = Q (some (-4)) (mS (hr I' n) J R) := by
  rw [m_reads0 hR]
  exact (m_rds_1 hR (n + 1) (rd0 I) 0 0 0 (by omega) (by omega) (TX_fr (frM_rd0 I) hT) ⟨rfl, by decide, rfl, by decide⟩ I' nr' nt' he).2 _ _ _ Q
theorem m_fault_0 (hR : tRef h d R) (hT : TX I n tc) {b : Nat} {I' : Nat → Nat → Int32} {nr' nt' : Nat} (he : rds n tc (n + 1) (rd0 I) 0 0 0 = (some b, I', nr', nt')) : ∃ I2, frM I I2 ∧ ∀ Q, tEv E 60 0 [.ref 56, tm_dum, tm_dum, tm_dum] [] (mS I J R) Q = Q (some (nI b)) (mS I2 J R) := by
  obtain ⟨I2, hf, hq⟩ := m_rds_0 (E := E) (J := J) hR (n + 1) (rd0 I) 0 0 0 (by omega) (by omega) (TX_fr (frM_rd0 I) hT) ⟨rfl, by decide, rfl, by decide⟩ b I' nr' nt' he (.int (nI 24)) tm_dum tm_dum
  exact ⟨I2, frM_trans (frM_rd0 I) hf, fun Q => by rw [m_reads0 hR, hq]⟩
end LY
