/-! ===== states: what the relation looks at; copies of a state ===== -/
def mL (I : Nat → Nat → Int32) (nr : Nat) : Prop := ∀ r, r < nr → I 58 r = 0 ∨ I 58 r = 1
def mLa (I : Nat → Nat → Int32) (nt : Nat) : Prop := I 57 50 = -4 ∨ ∃ x, x < nt ∧ I 57 50 = nI x
def RW (I : Nat → Nat → Int32) (h nr nt y : Nat) (pl : Nat → Nat) : Prop := RR I h nr nt y pl ∧ mO I nt ∧ mL I nr ∧ mLa I nt
/-- alike in all that the relation looks at -/
def agr (I I' : Nat → Nat → Int32) : Prop := (I' 56 2 = I 56 2 ∧ I' 56 3 = I 56 3) ∧ (∀ c, 4 ≤ c → c ≤ 20 → I' c = I c) ∧ (∀ c, 58 ≤ c → c ≤ 65 → I' c = I c) ∧ (∀ q, q < 52 → I' 57 q = I 57 q) ∧ (∀ k, 2 ≤ k → k < 9 → I' 21 k = I 21 k) ∧ ∀ t, t < 16 → I' 22 t = I 22 t ∧ I' 23 t = I 23 t
theorem RW_agr {I I' : Nat → Nat → Int32} {h nr nt y : Nat} {pl : Nat → Nat} (hh : h = 4 ∨ h = 13) (a : agr I I') (hC : RW I h nr nt y pl) : RW I' h nr nt y pl := by
  obtain ⟨⟨a1, a2⟩, a3, a4, a5, a6, a7⟩ := a
  obtain ⟨⟨hW, hY, hH, hS, hD⟩, hO, hL, hLa⟩ := hC
  have h16 := hW.2.2.2.1
  have e58 := a4 58 (by decide) (by decide)
  have e59 := a4 59 (by decide) (by decide)
  have e60 := a4 60 (by decide) (by decide)
  have e61 := a4 61 (by decide) (by decide)
  have e62 := a4 62 (by decide) (by decide)
  have e63 := a4 63 (by decide) (by decide)
  have e64 := a4 64 (by decide) (by decide)
  have e65 := a4 65 (by decide) (by decide)
  have q0 := a3 h (by omega) (by omega)
  have q1 := a3 (h + 1) (by omega) (by omega)
  have q2 := a3 (h + 2) (by omega) (by omega)
  have q3 := a3 (h + 3) (by omega) (by omega)
  have q4 := a3 (h + 4) (by omega) (by omega)
  have q6 := a3 (h + 6) (by omega) (by omega)
  have q7 := a3 (h + 7) (by omega) (by omega)
  have hm : mtr I' = mtr I := by
    funext t x
    unfold mtr
    rw [e62]
  have hs : ∀ t x, t < nt → mst I' t x = mst I t x := fun t x ht => by
    unfold mst
    rw [a5 (16 + t) (by omega)]
  have hb : ∀ c f q q', I' c f = I c f → (∀ t, t < nt → q' t = q t) → cB I c f nt q → cB I' c f nt q' := fun c f q q' e e2 g t ht => by
    rw [e, g t ht]
    by_cases c : t < nt
    · rw [e2 t c]
    · rw [decide_eq_false c, Bool.false_and, Bool.false_and]
  refine ⟨⟨mW_cong hW a1 a2 (fun t ht => a5 t (by omega)), ?_, ?_, ?_, ?_⟩, ?_, ?_, ?_⟩
  · refine ⟨by rw [a5 48 (by decide)]; exact hY.1, hY.2.1, ?_, ?_⟩
    · rw [e64]; exact hY.2.2.1
    · rw [e65]; exact hY.2.2.2
  · obtain ⟨⟨b1, b2, b3⟩, ⟨b4, b5, b6, b7, b8, b9⟩, b10, b11, b12, b13, b14, b15⟩ := hH
    refine ⟨⟨by rw [q0]; exact b1, by rw [q0]; exact b2, by rw [q0, e58]; exact b3⟩, ⟨by rw [q1, e64]; exact b4, by rw [q2, e65]; exact b5, by rw [q3, e59]; exact b6, by rw [q4, e60]; exact b7, ?_, by rw [q7, e63]; exact b9⟩, ?_⟩
    · unfold cWt at b8 ⊢
      rw [q6, e61]
      exact b8
    · rw [hm]
      exact ⟨hb _ _ _ _ (by rw [q0]) (fun _ _ => rfl) b10, hb _ _ _ _ (by rw [q0]) (fun _ _ => rfl) b11, hb _ _ _ _ (by rw [q0]) (fun _ _ => rfl) b12, hb _ _ _ _ (by rw [q0]) (fun _ _ => rfl) b13, hb _ _ _ _ (by rw [q0]) (fun _ _ => rfl) b14, hb _ _ _ _ (by rw [q0]) (fun _ _ => rfl) b15⟩
  · obtain ⟨⟨c1, c2, c3, c4⟩, c5, c6, c7, c8, c9⟩ := hS
    refine ⟨⟨fun t ht => by rw [(a7 t ht).1]; exact c1 t ht, hb _ _ _ _ (a6 2 (by decide) (by decide)) (fun t ht => hs t 1 ht) c2, hb _ _ _ _ (a6 3 (by decide) (by decide)) (fun t ht => hs t 2 ht) c3, hb _ _ _ _ (a6 4 (by decide) (by decide)) (fun t ht => hs t 4 ht) c4⟩, ?_, ?_, ?_, ?_, ?_⟩
    · rw [a6 5 (by decide) (by decide), a5 48 (by decide)]; exact c5
    · rw [a6 6 (by decide) (by decide), a5 49 (by decide)]; exact c6
    · rw [a6 7 (by decide) (by decide), a5 50 (by decide)]; exact c7
    · rw [a6 8 (by decide) (by decide), a5 51 (by decide)]; exact c8
    · intro t ht
      rw [hm, (a7 t (by omega)).2, a5 (32 + t) (by omega)]
      exact c9 t ht
  · intro k t hk ht
    rw [e65, hm]
    exact hD k t hk ht
  · intro t ht
    rw [hm, hs t 4 ht, a5 (32 + t) (by omega)]
    exact hO t ht
  · intro r hr
    rw [e58]
    exact hL r hr
  · unfold mLa
    rw [a5 50 (by decide)]
    exact hLa
theorem agr_refl (I : Nat → Nat → Int32) : agr I I := ⟨⟨rfl, rfl⟩, fun _ _ _ => rfl, fun _ _ _ => rfl, fun _ _ => rfl, fun _ _ _ => rfl, fun _ _ => ⟨rfl, rfl⟩⟩
theorem agr_trans {I I' I'' : Nat → Nat → Int32} (a : agr I I') (b : agr I' I'') : agr I I'' :=
  ⟨⟨b.1.1.trans a.1.1, b.1.2.trans a.1.2⟩, fun c h1 h2 => (b.2.1 c h1 h2).trans (a.2.1 c h1 h2), fun c h1 h2 => (b.2.2.1 c h1 h2).trans (a.2.2.1 c h1 h2), fun q hq => (b.2.2.2.1 q hq).trans (a.2.2.2.1 q hq), fun k h1 h2 => (b.2.2.2.2.1 k h1 h2).trans (a.2.2.2.2.1 k h1 h2), fun t ht => ⟨(b.2.2.2.2.2 t ht).1.trans (a.2.2.2.2.2 t ht).1, (b.2.2.2.2.2 t ht).2.trans (a.2.2.2.2.2 t ht).2⟩⟩
/-- the state of cell c and of the row f in place of the one that stands -/
def rst (I : Nat → Nat → Int32) (c : Nat) (f : Nat → Int32) : Nat → Nat → Int32 := va_up (va_up (va_up (va_up I 21 (I c)) 22 (I (c + 1))) 23 (I (c + 2))) 57 f
theorem rst_x {I : Nat → Nat → Int32} {c : Nat} {f : Nat → Int32} {k : Nat} (h : k ≠ 21 ∧ k ≠ 22 ∧ k ≠ 23 ∧ k ≠ 57) : rst I c f k = I k := by
  unfold rst
  rw [vu, if_neg (by omega), vu, if_neg (by omega), vu, if_neg (by omega), vu, if_neg (by omega)]
/-- what a copy leaves: cells a, a + 1, a + 2 alike those of b, where it matters -/
def cpd (I I' : Nat → Nat → Int32) (a b : Nat) : Prop := (∀ c, c ≠ a → c ≠ a + 1 → c ≠ a + 2 → I' c = I c) ∧ (∀ k, 2 ≤ k → k < 9 → I' a k = I b k) ∧ ∀ t, t < 16 → I' (a + 1) t = I (b + 1) t ∧ I' (a + 2) t = I (b + 2) t
section E1
variable {E : tm_Env} {Q : Option Int32 → tm_St → Prop} {I : Nat → Nat → Int32} {J : Nat → Nat → Int64} {R : Nat → Nat → Option Nat} {h d : Nat} {nr nt y : Nat} {pl : Nat → Nat}
theorem c_copyFrom (hR : tRef h d R) {a b : Nat} (hab : a + 3 ≤ b ∨ b + 3 ≤ a) (hb : b < 900) (ka : tm_kn tL a = some 7) (kb : tm_kn tL b = some 7) (ra : R a 0 = some (a + 1) ∧ R a 1 = some (a + 2)) (rb : R b 0 = some (b + 1) ∧ R b 1 = some (b + 2)) (ka1 : tm_kn tL (a + 1) = some 13 ∧ tm_ln tL (a + 1) = 16) (ka2 : tm_kn tL (a + 2) = some 13 ∧ tm_ln tL (a + 2) = 16) (kb1 : tm_kn tL (b + 1) = some 13 ∧ tm_ln tL (b + 1) = 16) (kb2 : tm_kn tL (b + 2) = some 13 ∧ tm_ln tL (b + 2) = 16) : ∃ I', cpd I I' a b ∧ ∀ Q, tEv E 113 0 [.ref a, .ref b] [] (mS I J R) Q = Q none (mS I' J R) := by
  have n1 : (b = a + 1) = False := eq_false (by omega)
  have n2 : (b = a + 2) = False := eq_false (by omega)
  have n0 : (b = a) = False := eq_false (by omega)
  have n3 : (b + 2 = a + 1) = False := eq_false (by omega)
  have n4 : (a = a + 1) = False := eq_false (by omega)
  have n5 : (a = a + 2) = False := eq_false (by omega)
  have n6 : (a + 2 = a + 1) = False := eq_false (by omega)
  have p0 : ¬ ((0 : Int32) < 0) := by decide
  have p16 : ¬ ((16 : Int32) < 0) := by decide
  have c16 : (0 : Int32).toNatClampNeg + (16 : Int32).toNatClampNeg ≤ 16 := by decide
  apply Exists.intro
  apply And.intro
  rotate_left
  · intro Q
    have w1 : (0 : Int32).toNatClampNeg + (16 : Int32).toNatClampNeg ≤ tm_ln tL (b + 1) := by rw [kb1.2]; exact c16
    have w2 : (0 : Int32).toNatClampNeg + (16 : Int32).toNatClampNeg ≤ tm_ln tL (a + 1) := by rw [ka1.2]; exact c16
    have w3 : (0 : Int32).toNatClampNeg + (16 : Int32).toNatClampNeg ≤ tm_ln tL (b + 2) := by rw [kb2.2]; exact c16
    have w4 : (0 : Int32).toNatClampNeg + (16 : Int32).toNatClampNeg ≤ tm_ln tL (a + 2) := by rw [ka2.2]; exact c16
    simp only [e_113_0, e_113_1, e_113_4, e_113_5, e_113_6, e_113_9, e_113_10, e_113_12, e_113_15, e_113_16, e_113_19, e_113_20, e_113_21, e_113_24, e_113_25, e_113_27, e_113_30, e_113_31, e_113_32, e_113_35, e_113_38, e_113_39, e_113_40, e_113_43, e_113_46, e_113_47, e_113_48, e_113_51, e_113_54, e_113_55, e_113_56, e_113_59, e_113_62, e_113_63, e_113_64, e_113_67, e_113_70, e_113_71, e_113_72, e_113_75, e_113_78, e_113_79, e_113_80, e_113_83, e_113_86, va_rf_some, push_s, push_n, nb0, nb1, nbb, Nat.reduceLT, ka, kb, ra.1, ra.2, rb.1, rb.2, ka1.1, ka2.1, kb1.1, kb2.1, p0, p16, w1, w2, w3, w4, not_false_eq_true, vu, n0, n1, n2, if_false]
    rfl
  · refine ⟨fun c h1 h2 h3 => ?_, fun k h1 h2 => ?_, fun t ht => ⟨?_, ?_⟩⟩
    · simp only [vu, h1, h2, h3, if_false]
    · rcases (by omega : k = 2 ∨ k = 3 ∨ k = 4 ∨ k = 5 ∨ k = 6 ∨ k = 7 ∨ k = 8) with rfl | rfl | rfl | rfl | rfl | rfl | rfl <;> simp only [vu, ud, if_true, Nat.reduceEqDiff, if_false]
    · have e1 : (a + 1 = a) = False := eq_false (by omega)
      have e2 : (a + 1 = a + 2) = False := eq_false (by omega)
      simp only [vu, e1, e2, if_false, if_true]
      have e0 : (0 : Int32).toNatClampNeg = 0 := by decide
      have e16 : (16 : Int32).toNatClampNeg = 16 := by decide
      unfold va_cpy
      rw [e0, e16, if_pos (by omega)]
      congr 1
      omega
    · have e1 : (a + 2 = a) = False := eq_false (by omega)
      have e2 : (b + 2 = a + 1) = False := eq_false (by omega)
      simp only [vu, e1, if_false, if_true]
      have e0 : (0 : Int32).toNatClampNeg = 0 := by decide
      have e16 : (16 : Int32).toNatClampNeg = 16 := by decide
      unfold va_cpy
      rw [e0, e16, if_pos (by omega)]
      simp only [vu, e2, if_false]
      congr 1
      omega
end E1
