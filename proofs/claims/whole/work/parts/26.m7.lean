/-! ===== the model: what is resolved ===== -/
def mC (I : Nat → Nat → Int32) (pl : Nat → Nat) (nt a x : Nat) : Bool := bt (I 82 0) x && anyb (mparb I pl nt a x) nt
theorem mW_cong {I I' : Nat → Nat → Int32} {nr nt : Nat} {pl : Nat → Nat} (h : mW I nr nt pl) (h1 : I' 56 2 = I 56 2) (h2 : I' 56 3 = I 56 3) (h3 : ∀ t, t < 16 → I' 57 t = I 57 t) : mW I' nr nt pl :=
  ⟨h1.trans h.1, h2.trans h.2.1, h.2.2.1, h.2.2.2.1, fun t ht => ⟨(h3 t (by have := h.2.2.2.1; omega)).trans (h.2.2.2.2.1 t ht).1, (h.2.2.2.2.1 t ht).2⟩, h.2.2.2.2.2⟩
theorem mmind_lo (f : Nat → Int32) {u q : Nat} (hq : q < 52) : mmind f u q = f q := by
  unfold mmind
  split
  · unfold cpy sft
    rw [if_neg (by omega), if_neg (by omega)]
  · unfold cpy
    rw [if_neg (by omega)]
/-- what the done act leaves -/
def mdone (f : Nat → Int32) (pl : Nat → Nat) (nt u a x y : Nat) : Nat → Int32 := mturn (upd (mdoes (mmind f u) pl nt a x y) 50 (nI x)) nt
/-- how all stands behind a turn: the rows F, told undos -/
def mfin (I : Nat → Nat → Int32) (u : Nat) (F : Nat → Int32) : Nat → Nat → Int32 := va_up (va_up I 56 (upd (upd (I 56) 1 (nI (mnext u))) 35 0)) 57 F
/-- how all stands behind minds -/
def mmd (I : Nat → Nat → Int32) (u : Nat) (F : Nat → Int32) : Nat → Nat → Int32 := va_up (va_up I 56 (upd (I 56) 1 (nI (mnext u)))) 57 F
theorem mmd_57 (I : Nat → Nat → Int32) (u : Nat) (F : Nat → Int32) : mmd I u F 57 = F := Eq.trans rfl rfl
theorem mmd_up (I : Nat → Nat → Int32) (u : Nat) (F G : Nat → Int32) : va_up (mmd I u F) 57 G = mmd I u G := vu_vu _ _ _ _
theorem mmd_W {I : Nat → Nat → Int32} {nr nt u : Nat} {pl : Nat → Nat} {F : Nat → Int32} (h : mW I nr nt pl) (h3 : ∀ t, t < 16 → F t = I 57 t) : mW (mmd I u F) nr nt pl := mW_cong h rfl rfl h3
theorem mmd_fin (I : Nat → Nat → Int32) (u : Nat) (F G : Nat → Int32) : va_up (va_up (mmd I u F) 57 G) 56 (upd (mmd I u F 56) 35 0) = mfin I u G := by
  unfold mmd mfin
  rw [vu_vu, vu_comm _ (k := 57) (j := 56) (by decide), vu_vu]
  rfl
theorem fin_fin (I : Nat → Nat → Int32) (u : Nat) (F : Nat → Int32) : mfin (va_up I 56 (upd (I 56) 35 0)) u F = mfin I u F := by
  unfold mfin
  rw [vu_vu, vu_eq]
  congr 2
  funext j
  simp only [ud]
  by_cases h1 : j = 35 <;> by_cases h2 : j = 1 <;> simp [h1, h2]
section M7
variable {E : tm_Env} {Q : Option Int32 → tm_St → Prop} {I : Nat → Nat → Int32} {J : Nat → Nat → Int64} {R : Nat → Nat → Option Nat} {h d : Nat} {nr nt y : Nat} {pl : Nat → Nat}
theorem m_res_loop (hR : tRef h d R) (hW : mW I nr nt pl) {a : Nat} (ha : a < 12) (hA : I 56 36 = nI a) {l3 : Value} : ∀ j i acc, i + j = nt → acc = so (mC I pl nt a) i → tEv E 176 9 [.ref 56, .int acc, .int (nI i), l3] [] (mS I J R) Q = tEv E 176 54 [.ref 56, .int (so (mC I pl nt a) nt), .int (nI nt), l3] [] (mS I J R) Q
  | 0, i, acc, hj, he => by
    have h16 := hW.2.2.2.1
    have hn : (nI i < nI nt) = False := by
      rw [show i = nt by omega]
      exact eq_false Int32.lt_irrefl
    rw [e_176_9]
    simp only [e_176_10, e_176_11, e_176_14, e_176_17, e_176_18, e_176_19, e_176_22, e_176_23, e_176_24, e_176_25, e_176_28, e_176_31, e_176_32, e_176_33, e_176_36, e_176_39, e_176_40, e_176_41, e_176_42, e_176_45, e_176_46, e_176_47, e_176_48, e_176_51, rf_56_0 hR, rf_56_4 hR, rf_56_5 hR, rf_56_6 hR, rf_56_7 hR, rf_56_8 hR, rf_56_9 hR, rf_56_10 hR, rf_56_11 hR, rf_56_12 hR, rf_56_14 hR, rf_56_15 hR, rf_56_19 hR, rf_56_20 hR, rf_56_21 hR, rf_56_22 hR, rf_56_23 hR, rf_56_24 hR, rf_56_25 hR, rf_56_26 hR, rf_56_27 hR, rf_56_29 hR, rf_56_32 hR, rf_56_33 hR, rf_56_34 hR, rf_56_37 hR, rf_56_38 hR, kn_56, kn_57, kn_58, kn_59, kn_60, kn_61, kn_62, kn_63, kn_64, kn_65, kn_66, kn_67, kn_68, kn_69, kn_70, kn_71, kn_72, kn_73, kn_74, kn_75, kn_76, kn_77, kn_78, kn_79, kn_80, kn_81, kn_82, kn_83, ln_57, ln_58, ln_59, ln_60, ln_61, ln_62, ln_63, ln_64, ln_65, ln_66, ln_67, ln_68, ln_69, ln_70, ln_71, ln_72, ln_73, ln_74, ln_75, ln_76, ln_77, ln_78, ln_79, ln_80, ln_81, ln_82, ln_83, va_rf_some, push_s, push_n, nb0, nb1, nbb, Nat.reduceLT, hW.2.1, hn, if_false]
    rw [he, show i = nt by omega]
  | j + 1, i, acc, hj, he => by
    have h16 := hW.2.2.2.1
    have hn : (nI i < nI nt) = True := eq_true (nI_lt (by omega) (by omega))
    have h3 : tm_inb 0 2 = true := by decide
    have h4 : (0 : Int32).toNatClampNeg = 0 := by decide
    have ih := fun acc' e => m_res_loop hR hW ha hA (l3 := l3) j (i + 1) acc' (by omega) e
    rw [e_176_9]
    simp only [e_176_10, e_176_11, e_176_14, e_176_17, e_176_18, e_176_19, e_176_22, e_176_23, e_176_24, e_176_25, e_176_28, e_176_31, e_176_32, e_176_33, e_176_36, e_176_39, e_176_40, e_176_41, e_176_42, e_176_45, e_176_46, e_176_47, e_176_48, e_176_51, rf_56_0 hR, rf_56_4 hR, rf_56_5 hR, rf_56_6 hR, rf_56_7 hR, rf_56_8 hR, rf_56_9 hR, rf_56_10 hR, rf_56_11 hR, rf_56_12 hR, rf_56_14 hR, rf_56_15 hR, rf_56_19 hR, rf_56_20 hR, rf_56_21 hR, rf_56_22 hR, rf_56_23 hR, rf_56_24 hR, rf_56_25 hR, rf_56_26 hR, rf_56_27 hR, rf_56_29 hR, rf_56_32 hR, rf_56_33 hR, rf_56_34 hR, rf_56_37 hR, rf_56_38 hR, kn_56, kn_57, kn_58, kn_59, kn_60, kn_61, kn_62, kn_63, kn_64, kn_65, kn_66, kn_67, kn_68, kn_69, kn_70, kn_71, kn_72, kn_73, kn_74, kn_75, kn_76, kn_77, kn_78, kn_79, kn_80, kn_81, kn_82, kn_83, ln_57, ln_58, ln_59, ln_60, ln_61, ln_62, ln_63, ln_64, ln_65, ln_66, ln_67, ln_68, ln_69, ln_70, ln_71, ln_72, ln_73, ln_74, ln_75, ln_76, ln_77, ln_78, ln_79, ln_80, ln_81, ln_82, ln_83, va_rf_some, push_s, push_n, nb0, nb1, nbb, Nat.reduceLT, hW.2.1, hn, if_true, h3, h4, m_partners hR hW ha hA (show i < nt by omega), m_has (show i < 32 by omega), b2i_0, nI_1]
    cases c3 : bt (I 82 0) i with
    | false =>
      rw [if_pos rfl]
      exact ih _ (by rw [so, he, mC, c3]; rfl)
    | true =>
      rw [if_neg (by decide)]
      have e0 : (so (mparb I pl nt a i) nt = 0) ↔ anyb (mparb I pl nt a i) nt = false := by
        rw [so_zero (by omega)]
        constructor
        · intro q
          cases c : anyb (mparb I pl nt a i) nt with
          | false => rfl
          | true =>
            obtain ⟨k, h1, h2⟩ := anyb_iff.mp c
            rw [q k h1] at h2
            cases h2
        · intro q k hk
          cases c : mparb I pl nt a i k with
          | false => rfl
          | true => rw [anyb_iff.mpr ⟨k, hk, c⟩] at q; cases q
      cases c4 : anyb (mparb I pl nt a i) nt with
      | false =>
        rw [if_pos (e0.mpr c4)]
        exact ih _ (by rw [so, he, mC, c3, c4]; rfl)
      | true =>
        rw [if_neg (fun e => by rw [e0.mp e] at c4; cases c4)]
        exact ih _ (by rw [so, he, mC, c3, c4]; rfl)
theorem m_res_0 (hR : tRef h d R) (hW : mW I nr nt pl) {a : Nat} (ha : a < 12) (hA : I 56 36 = nI a) : tEv E 176 0 [.ref 56, tm_dum, tm_dum, tm_dum] [] (mS I J R) Q = tEv E 176 54 [.ref 56, .int (so (mC I pl nt a) nt), .int (nI nt), tm_dum] [] (mS (va_up I 56 (upd (I 56) 35 0)) J R) Q := by
  have hW' : mW (va_up I 56 (upd (I 56) 35 0)) nr nt pl := mW_cong hW rfl rfl (fun _ _ => rfl)
  simp only [e_176_0, e_176_1, e_176_2, e_176_3, e_176_4, e_176_7, e_176_8, rf_56_0 hR, rf_56_4 hR, rf_56_5 hR, rf_56_6 hR, rf_56_7 hR, rf_56_8 hR, rf_56_9 hR, rf_56_10 hR, rf_56_11 hR, rf_56_12 hR, rf_56_14 hR, rf_56_15 hR, rf_56_19 hR, rf_56_20 hR, rf_56_21 hR, rf_56_22 hR, rf_56_23 hR, rf_56_24 hR, rf_56_25 hR, rf_56_26 hR, rf_56_27 hR, rf_56_29 hR, rf_56_32 hR, rf_56_33 hR, rf_56_34 hR, rf_56_37 hR, rf_56_38 hR, kn_56, kn_57, kn_58, kn_59, kn_60, kn_61, kn_62, kn_63, kn_64, kn_65, kn_66, kn_67, kn_68, kn_69, kn_70, kn_71, kn_72, kn_73, kn_74, kn_75, kn_76, kn_77, kn_78, kn_79, kn_80, kn_81, kn_82, kn_83, ln_57, ln_58, ln_59, ln_60, ln_61, ln_62, ln_63, ln_64, ln_65, ln_66, ln_67, ln_68, ln_69, ln_70, ln_71, ln_72, ln_73, ln_74, ln_75, ln_76, ln_77, ln_78, ln_79, ln_80, ln_81, ln_82, ln_83, va_rf_some, push_s, push_n, nb0, nb1, nbb, Nat.reduceLT]
  exact m_res_loop hR hW' ha hA nt 0 0 (by omega) rfl
theorem m_lowb {M : tm_Mem} {x : Int32} (h : anyb (bt x) 16 = true) : tEv E 169 0 [.int x, tm_dum] [] (M, 0, 0) Q = Q (some (nI (low (bt x) 16))) (M, 0, 0) := by
  obtain ⟨a, b, c⟩ := low_spec h
  exact m_least (by omega) b c
/-- none can -/
theorem m_resolves_0 (hR : tRef h d R) (hW : mW I nr nt pl) {a : Nat} (ha : a < 12) (hA : I 56 36 = nI a) (hc : anyb (mC I pl nt a) nt = false) (hf : anyb (bt (I 82 0)) 16 = true) (hf1 : low (bt (I 82 0)) 16 < nt) (hg : of2 a = true → anyb (bt (I 82 1)) 16 = true ∧ low (bt (I 82 1)) 16 < nt) : tEv E 176 0 [.ref 56, tm_dum, tm_dum, tm_dum] [] (mS I J R) Q = Q (some (mwhy I pl nt a (low (bt (I 82 0)) 16) (low (bt (I 82 1)) 16))) (mS (va_up I 56 (upd (I 56) 35 0)) J R) := by
  have h16 := hW.2.2.2.1
  have hW' : mW (va_up I 56 (upd (I 56) 35 0)) nr nt pl := mW_cong hW rfl rfl (fun _ _ => rfl)
  have hA' : (va_up I 56 (upd (I 56) 35 0)) 56 36 = nI a := hA
  have h3 : tm_inb 0 2 = true := by decide
  have h4 : (0 : Int32).toNatClampNeg = 0 := by decide
  have h5 : tm_inb 1 2 = true := by decide
  have h6 : (1 : Int32).toNatClampNeg = 1 := by decide
  have hz : so (mC I pl nt a) nt = 0 := (so_zero (by omega)).mpr (fun i hi => by
    cases c : mC I pl nt a i with
    | false => rfl
    | true => rw [anyb_iff.mpr ⟨i, hi, c⟩] at hc; cases hc)
  rw [m_res_0 hR hW ha hA, hz]
  have e1 := fun {M : tm_Mem} {Q} => m_lowb (E := E) (M := M) (Q := Q) hf
  cases h2 : of2 a with
  | true =>
    obtain ⟨g1, g2⟩ := hg h2
    have e2 := fun {M : tm_Mem} {Q} => m_lowb (E := E) (M := M) (Q := Q) g1
    have hw := fun {Q} => m_why (E := E) (Q := Q) (J := J) hR hW' ha hf1 (fun _ => ⟨rfl, g2⟩)
    simp only [e_176_54, e_176_55, e_176_58, e_176_59, e_176_60, e_176_63, e_176_64, e_176_67, e_176_68, e_176_69, e_176_72, e_176_73, e_176_76, e_176_79, e_176_82, e_176_83, e_176_86, e_176_87, e_176_88, e_176_91, e_176_94, e_176_95, e_176_98, rf_56_0 hR, rf_56_4 hR, rf_56_5 hR, rf_56_6 hR, rf_56_7 hR, rf_56_8 hR, rf_56_9 hR, rf_56_10 hR, rf_56_11 hR, rf_56_12 hR, rf_56_14 hR, rf_56_15 hR, rf_56_19 hR, rf_56_20 hR, rf_56_21 hR, rf_56_22 hR, rf_56_23 hR, rf_56_24 hR, rf_56_25 hR, rf_56_26 hR, rf_56_27 hR, rf_56_29 hR, rf_56_32 hR, rf_56_33 hR, rf_56_34 hR, rf_56_37 hR, rf_56_38 hR, kn_56, kn_57, kn_58, kn_59, kn_60, kn_61, kn_62, kn_63, kn_64, kn_65, kn_66, kn_67, kn_68, kn_69, kn_70, kn_71, kn_72, kn_73, kn_74, kn_75, kn_76, kn_77, kn_78, kn_79, kn_80, kn_81, kn_82, kn_83, ln_57, ln_58, ln_59, ln_60, ln_61, ln_62, ln_63, ln_64, ln_65, ln_66, ln_67, ln_68, ln_69, ln_70, ln_71, ln_72, ln_73, ln_74, ln_75, ln_76, ln_77, ln_78, ln_79, ln_80, ln_81, ln_82, ln_83, va_rf_some, push_s, push_n, nb0, nb1, nbb, Nat.reduceLT, vu, ud, Nat.reduceEqDiff, reduceIte, h3, h4, h5, h6, e1, hA, m_isOfTwo (show a < 100 by omega), h2, b2i_0, Bool.true_eq_false, e2, hw]
    rfl
  | false =>
    have hw := fun {Q} => m_why (E := E) (Q := Q) (J := J) (y := low (bt (I 82 1)) 16) (yv := 0) hR hW' ha hf1 (fun e => by rw [h2] at e; cases e)
    simp only [e_176_54, e_176_55, e_176_58, e_176_59, e_176_60, e_176_63, e_176_64, e_176_67, e_176_68, e_176_69, e_176_72, e_176_73, e_176_76, e_176_79, e_176_82, e_176_83, e_176_86, e_176_87, e_176_88, e_176_91, e_176_94, e_176_95, e_176_98, rf_56_0 hR, rf_56_4 hR, rf_56_5 hR, rf_56_6 hR, rf_56_7 hR, rf_56_8 hR, rf_56_9 hR, rf_56_10 hR, rf_56_11 hR, rf_56_12 hR, rf_56_14 hR, rf_56_15 hR, rf_56_19 hR, rf_56_20 hR, rf_56_21 hR, rf_56_22 hR, rf_56_23 hR, rf_56_24 hR, rf_56_25 hR, rf_56_26 hR, rf_56_27 hR, rf_56_29 hR, rf_56_32 hR, rf_56_33 hR, rf_56_34 hR, rf_56_37 hR, rf_56_38 hR, kn_56, kn_57, kn_58, kn_59, kn_60, kn_61, kn_62, kn_63, kn_64, kn_65, kn_66, kn_67, kn_68, kn_69, kn_70, kn_71, kn_72, kn_73, kn_74, kn_75, kn_76, kn_77, kn_78, kn_79, kn_80, kn_81, kn_82, kn_83, ln_57, ln_58, ln_59, ln_60, ln_61, ln_62, ln_63, ln_64, ln_65, ln_66, ln_67, ln_68, ln_69, ln_70, ln_71, ln_72, ln_73, ln_74, ln_75, ln_76, ln_77, ln_78, ln_79, ln_80, ln_81, ln_82, ln_83, va_rf_some, push_s, push_n, nb0, nb1, nbb, Nat.reduceLT, vu, ud, Nat.reduceEqDiff, reduceIte, h3, h4, h5, h6, e1, hA, m_isOfTwo (show a < 100 by omega), h2, b2i_0, hw]
    rfl
theorem so_nz {p : Nat → Bool} {n : Nat} (hn : n ≤ 32) (h : anyb p n = true) : ¬ so p n = 0 := fun e => by
  obtain ⟨k, h1, h2⟩ := anyb_iff.mp h
  rw [(so_zero hn).mp e k h1] at h2
  cases h2
/-- several can -/
theorem m_resolves_1 (hR : tRef h d R) (hW : mW I nr nt pl) {a : Nat} (ha : a < 12) (hA : I 56 36 = nI a) (hc : 1 < ct (mC I pl nt a) nt) : tEv E 176 0 [.ref 56, tm_dum, tm_dum, tm_dum] [] (mS I J R) Q = Q (some 4) (mS (va_up (va_up I 56 (upd (I 56) 35 1)) 82 (upd (I 82) 0 (so (mC I pl nt a) nt))) J R) := by
  have h16 := hW.2.2.2.1
  have h3 : tm_inb 0 2 = true := by decide
  have h4 : (0 : Int32).toNatClampNeg = 0 := by decide
  have hz : (so (mC I pl nt a) nt = 0) = False := eq_false (so_nz (by omega) (by
    cases c : anyb (mC I pl nt a) nt with
    | true => rfl
    | false => rw [ct_0.mpr c] at hc; omega))
  have hle := ct_le (mC I pl nt a) nt
  have hgt : ((1 : Int32) < nI (ct (mC I pl nt a) nt)) = True := eq_true (nI_lt (a := 1) hc (by omega))
  rw [m_res_0 hR hW ha hA]
  simp only [e_176_54, e_176_55, e_176_58, e_176_59, e_176_60, e_176_63, e_176_64, e_176_67, e_176_68, e_176_69, e_176_72, e_176_73, e_176_76, e_176_79, e_176_82, e_176_83, e_176_86, e_176_87, e_176_88, e_176_91, e_176_94, e_176_95, e_176_98, e_176_99, e_176_100, e_176_103, e_176_104, e_176_107, e_176_108, e_176_109, e_176_112, e_176_113, e_176_116, e_176_117, e_176_118, e_176_119, e_176_120, e_176_121, rf_56_0 hR, rf_56_4 hR, rf_56_5 hR, rf_56_6 hR, rf_56_7 hR, rf_56_8 hR, rf_56_9 hR, rf_56_10 hR, rf_56_11 hR, rf_56_12 hR, rf_56_14 hR, rf_56_15 hR, rf_56_19 hR, rf_56_20 hR, rf_56_21 hR, rf_56_22 hR, rf_56_23 hR, rf_56_24 hR, rf_56_25 hR, rf_56_26 hR, rf_56_27 hR, rf_56_29 hR, rf_56_32 hR, rf_56_33 hR, rf_56_34 hR, rf_56_37 hR, rf_56_38 hR, kn_56, kn_57, kn_58, kn_59, kn_60, kn_61, kn_62, kn_63, kn_64, kn_65, kn_66, kn_67, kn_68, kn_69, kn_70, kn_71, kn_72, kn_73, kn_74, kn_75, kn_76, kn_77, kn_78, kn_79, kn_80, kn_81, kn_82, kn_83, ln_57, ln_58, ln_59, ln_60, ln_61, ln_62, ln_63, ln_64, ln_65, ln_66, ln_67, ln_68, ln_69, ln_70, ln_71, ln_72, ln_73, ln_74, ln_75, ln_76, ln_77, ln_78, ln_79, ln_80, ln_81, ln_82, ln_83, va_rf_some, push_s, push_n, nb0, nb1, nbb, Nat.reduceLT, hz, if_false, m_ones, cnt_so h16, hgt, if_true, vu, ud, Nat.reduceEqDiff, reduceIte, h3, h4, vu_vu, upd_upd]
/-- one can, with several -/
theorem m_resolves_2 (hR : tRef h d R) (hW : mW I nr nt pl) {a : Nat} (ha : a < 12) (hA : I 56 36 = nI a) (hc : ct (mC I pl nt a) nt = 1) (hp : 1 < ct (mparb I pl nt a (low (mC I pl nt a) nt)) nt) : tEv E 176 0 [.ref 56, tm_dum, tm_dum, tm_dum] [] (mS I J R) Q = Q (some 4) (mS (va_up (va_up I 56 (upd (I 56) 35 2)) 82 (upd (I 82) 1 (so (mparb I pl nt a (low (mC I pl nt a) nt)) nt))) J R) := by
  have h16 := hW.2.2.2.1
  have hW' : mW (va_up I 56 (upd (I 56) 35 0)) nr nt pl := mW_cong hW rfl rfl (fun _ _ => rfl)
  have hA' : (va_up I 56 (upd (I 56) 35 0)) 56 36 = nI a := hA
  have h3 : tm_inb 1 2 = true := by decide
  have h4 : (1 : Int32).toNatClampNeg = 1 := by decide
  have hn : anyb (mC I pl nt a) nt = true := by
    cases c : anyb (mC I pl nt a) nt with
    | true => rfl
    | false => rw [ct_0.mpr c] at hc; omega
  have hz : (so (mC I pl nt a) nt = 0) = False := eq_false (so_nz (by omega) hn)
  have hle := ct_le (mparb I pl nt a (low (mC I pl nt a) nt)) nt
  have hgt : ((1 : Int32) < nI 1) = False := eq_false (by decide)
  have hgt2 : ((1 : Int32) < nI (ct (mparb I pl nt a (low (mC I pl nt a) nt)) nt)) = True := eq_true (nI_lt (a := 1) hp (by omega))
  have e1 := fun {M : tm_Mem} {Q} => m_lowb (E := E) (M := M) (Q := Q) (x := so (mC I pl nt a) nt) (by rw [anyb_so h16, hn])
  rw [low_so h16 hn] at e1
  have hl := (low_spec hn).1
  have hpp := fun {Q} => m_partners (E := E) (Q := Q) (J := J) hR hW' ha hA' hl
  have hpe : mparb (va_up I 56 (upd (I 56) 35 0)) pl nt a (low (mC I pl nt a) nt) = mparb I pl nt a (low (mC I pl nt a) nt) := rfl
  rw [hpe] at hpp
  rw [m_res_0 hR hW ha hA]
  simp only [e_176_54, e_176_55, e_176_58, e_176_59, e_176_60, e_176_63, e_176_64, e_176_67, e_176_68, e_176_69, e_176_72, e_176_73, e_176_76, e_176_79, e_176_82, e_176_83, e_176_86, e_176_87, e_176_88, e_176_91, e_176_94, e_176_95, e_176_98, e_176_99, e_176_100, e_176_103, e_176_104, e_176_107, e_176_108, e_176_109, e_176_112, e_176_113, e_176_116, e_176_117, e_176_118, e_176_119, e_176_120, e_176_121, e_176_122, e_176_125, e_176_126, e_176_127, e_176_128, e_176_131, e_176_132, e_176_133, e_176_136, e_176_137, e_176_140, e_176_141, e_176_142, e_176_145, e_176_146, e_176_149, e_176_150, e_176_151, e_176_152, e_176_153, rf_56_0 hR, rf_56_4 hR, rf_56_5 hR, rf_56_6 hR, rf_56_7 hR, rf_56_8 hR, rf_56_9 hR, rf_56_10 hR, rf_56_11 hR, rf_56_12 hR, rf_56_14 hR, rf_56_15 hR, rf_56_19 hR, rf_56_20 hR, rf_56_21 hR, rf_56_22 hR, rf_56_23 hR, rf_56_24 hR, rf_56_25 hR, rf_56_26 hR, rf_56_27 hR, rf_56_29 hR, rf_56_32 hR, rf_56_33 hR, rf_56_34 hR, rf_56_37 hR, rf_56_38 hR, kn_56, kn_57, kn_58, kn_59, kn_60, kn_61, kn_62, kn_63, kn_64, kn_65, kn_66, kn_67, kn_68, kn_69, kn_70, kn_71, kn_72, kn_73, kn_74, kn_75, kn_76, kn_77, kn_78, kn_79, kn_80, kn_81, kn_82, kn_83, ln_57, ln_58, ln_59, ln_60, ln_61, ln_62, ln_63, ln_64, ln_65, ln_66, ln_67, ln_68, ln_69, ln_70, ln_71, ln_72, ln_73, ln_74, ln_75, ln_76, ln_77, ln_78, ln_79, ln_80, ln_81, ln_82, ln_83, va_rf_some, push_s, push_n, nb0, nb1, nbb, Nat.reduceLT, hz, if_false, m_ones, cnt_so h16, hc, hgt, e1, hpp, hgt2, if_true, vu, ud, Nat.reduceEqDiff, reduceIte, h3, h4, vu_vu, upd_upd]
theorem m_mindsD (hR : tRef h d R) {u : Nat} (hu : u ≤ 8) (h1 : I 56 1 = nI u) : tEv E 172 0 [.ref 56, tm_dum] [] (mS I J R) Q = Q none (mS (mmd I u (mmind (I 57) u)) J R) := m_minds hR hu h1
theorem m_turnsD (hR : tRef h d R) {u : Nat} {F : Nat → Int32} (hn3 : I 56 3 = nI nt) (h16 : nt ≤ 16) : tEv E 175 0 [.ref 56, tm_dum] [] (mS (mmd I u F) J R) Q = Q (some 0) (mS (mfin I u (mturn F nt)) J R) := by
  have := fun {Q} => m_turns (E := E) (Q := Q) (J := J) (I := mmd I u F) (nt := nt) hR hn3 h16
  rw [mmd_57, mmd_fin] at this
  exact this
/-- one can, with one: it is done -/
theorem m_resolves_3 (hR : tRef h d R) (hW : mW I nr nt pl) {a u : Nat} (hu : u ≤ 8) (h1 : I 56 1 = nI u) (ha : a < 12) (hA : I 56 36 = nI a) (hc : ct (mC I pl nt a) nt = 1) (hp : ct (mparb I pl nt a (low (mC I pl nt a) nt)) nt = 1) : tEv E 176 0 [.ref 56, tm_dum, tm_dum, tm_dum] [] (mS I J R) Q = Q (some 0) (mS (mfin I u (mdone (I 57) pl nt u a (low (mC I pl nt a) nt) (low (mparb I pl nt a (low (mC I pl nt a) nt)) nt))) J R) := by
  have h16 := hW.2.2.2.1
  have hW' : mW (va_up I 56 (upd (I 56) 35 0)) nr nt pl := mW_cong hW rfl rfl (fun _ _ => rfl)
  have hA' : (va_up I 56 (upd (I 56) 35 0)) 56 36 = nI a := hA
  have h1' : (va_up I 56 (upd (I 56) 35 0)) 56 1 = nI u := h1
  have h3 : tm_inb 50 468 = true := by decide
  have h4 : (50 : Int32).toNatClampNeg = 50 := by decide
  have hn : anyb (mC I pl nt a) nt = true := by
    cases c : anyb (mC I pl nt a) nt with
    | true => rfl
    | false => rw [ct_0.mpr c] at hc; omega
  have hz : (so (mC I pl nt a) nt = 0) = False := eq_false (so_nz (by omega) hn)
  have hgt : ((1 : Int32) < nI 1) = False := eq_false (by decide)
  have e1 := fun {M : tm_Mem} {Q} => m_lowb (E := E) (M := M) (Q := Q) (x := so (mC I pl nt a) nt) (by rw [anyb_so h16, hn])
  rw [low_so h16 hn] at e1
  have hl := (low_spec hn).1
  have hpp := fun {Q} => m_partners (E := E) (Q := Q) (J := J) hR hW' ha hA' hl
  have hpe : mparb (va_up I 56 (upd (I 56) 35 0)) pl nt a (low (mC I pl nt a) nt) = mparb I pl nt a (low (mC I pl nt a) nt) := rfl
  rw [hpe] at hpp
  have hpn : anyb (mparb I pl nt a (low (mC I pl nt a) nt)) nt = true := by
    cases c : anyb (mparb I pl nt a (low (mC I pl nt a) nt)) nt with
    | true => rfl
    | false => rw [ct_0.mpr c] at hp; omega
  have e2 := fun {M : tm_Mem} {Q} => m_lowb (E := E) (M := M) (Q := Q) (x := so (mparb I pl nt a (low (mC I pl nt a) nt)) nt) (by rw [anyb_so h16, hpn])
  rw [low_so h16 hpn] at e2
  have hmi := fun {Q} => m_mindsD (E := E) (Q := Q) (J := J) (I := va_up I 56 (upd (I 56) 35 0)) hR hu h1'
  have hW2 : mW (mmd (va_up I 56 (upd (I 56) 35 0)) u (mmind (I 57) u)) nr nt pl := mmd_W hW' (fun t ht => mmind_lo _ (by omega))
  have hdo := fun {Q} => m_does (E := E) (Q := Q) (J := J) (y := low (mparb I pl nt a (low (mC I pl nt a) nt)) nt) hR hW2 ha hl
  rw [mmd_57, mmd_up] at hdo
  have hx := inb_nI (j := low (mC I pl nt a) nt) (n := 468) (by omega) (by decide)
  have htu := fun {F Q} => m_turnsD (E := E) (Q := Q) (J := J) (u := u) (F := F) (I := va_up I 56 (upd (I 56) 35 0)) (nt := nt) hR hW.2.1 h16
  have e36 : mmd (va_up I 56 (upd (I 56) 35 0)) u (mmind (I 57) u) 56 36 = nI a := hA
  rw [m_res_0 hR hW ha hA]
  have vs : (va_up I 56 (upd (I 56) 35 0)) 57 = I 57 := rfl
  rw [vs] at hmi
  simp only [e_176_54, e_176_55, e_176_58, e_176_59, e_176_60, e_176_63, e_176_64, e_176_67, e_176_68, e_176_69, e_176_72, e_176_73, e_176_76, e_176_79, e_176_82, e_176_83, e_176_86, e_176_87, e_176_88, e_176_91, e_176_94, e_176_95, e_176_98, e_176_99, e_176_100, e_176_103, e_176_104, e_176_107, e_176_108, e_176_109, e_176_112, e_176_113, e_176_116, e_176_117, e_176_118, e_176_119, e_176_120, e_176_121, e_176_122, e_176_125, e_176_126, e_176_127, e_176_128, e_176_131, e_176_132, e_176_133, e_176_136, e_176_137, e_176_140, e_176_141, e_176_142, e_176_145, e_176_146, e_176_149, e_176_150, e_176_151, e_176_152, e_176_153, e_176_154, e_176_155, e_176_158, e_176_159, e_176_160, e_176_163, e_176_164, e_176_165, e_176_168, e_176_171, e_176_172, e_176_175, e_176_177, e_176_178, e_176_179, e_176_180, e_176_183, rf_56_0 hR, rf_56_4 hR, rf_56_5 hR, rf_56_6 hR, rf_56_7 hR, rf_56_8 hR, rf_56_9 hR, rf_56_10 hR, rf_56_11 hR, rf_56_12 hR, rf_56_14 hR, rf_56_15 hR, rf_56_19 hR, rf_56_20 hR, rf_56_21 hR, rf_56_22 hR, rf_56_23 hR, rf_56_24 hR, rf_56_25 hR, rf_56_26 hR, rf_56_27 hR, rf_56_29 hR, rf_56_32 hR, rf_56_33 hR, rf_56_34 hR, rf_56_37 hR, rf_56_38 hR, kn_56, kn_57, kn_58, kn_59, kn_60, kn_61, kn_62, kn_63, kn_64, kn_65, kn_66, kn_67, kn_68, kn_69, kn_70, kn_71, kn_72, kn_73, kn_74, kn_75, kn_76, kn_77, kn_78, kn_79, kn_80, kn_81, kn_82, kn_83, ln_57, ln_58, ln_59, ln_60, ln_61, ln_62, ln_63, ln_64, ln_65, ln_66, ln_67, ln_68, ln_69, ln_70, ln_71, ln_72, ln_73, ln_74, ln_75, ln_76, ln_77, ln_78, ln_79, ln_80, ln_81, ln_82, ln_83, va_rf_some, push_s, push_n, nb0, nb1, nbb, Nat.reduceLT, hz, if_false, m_ones, cnt_so h16, hc, hgt, e1, hpp, hp, hmi, e2, e36, hdo, mmd_up, mmd_57, h3, h4, htu]
  rw [fin_fin]
  rfl
end M7
