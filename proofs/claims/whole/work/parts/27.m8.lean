/-! ===== the model: what is said ===== -/
def mfit (I : Nat → Nat → Int32) (pl : Nat → Nat) (nt y k t : Nat) : Bool := mtold I k t && mseen I pl nt y t
def mask (I : Nat → Nat → Int32) (a : Nat) (f0 f1 : Int32) : Nat → Nat → Int32 := va_up (va_up I 56 (upd (I 56) 36 (nI a))) 82 (upd (upd (I 82) 0 f0) 1 f1)
def mmay (I : Nat → Nat → Int32) (pl : Nat → Nat) (nt x : Nat) : Bool := !mtr I x 8 && (fin pl x != 30) && decide (mtake I pl nt x = 0)
section M8
variable {E : tm_Env} {Q : Option Int32 → tm_St → Prop} {I : Nat → Nat → Int32} {J : Nat → Nat → Int64} {R : Nat → Nat → Option Nat} {h d : Nat} {nr nt y : Nat} {pl : Nat → Nat}
theorem so_msee (hW : mW I nr nt pl) {k : Nat} : so (fun t => mtold I k t && bt (msee I pl nt y) t) nt = so (mfit I pl nt y k) nt := by
  have h16 := hW.2.2.2.1
  refine so_cong (fun t ht => ?_)
  rw [msee, so_bt _ (by omega) t (by omega), decide_eq_true ht]
  rfl
theorem so_any {p : Nat → Bool} {n : Nat} (hn : n ≤ 32) : (so p n = 0) = (anyb p n = false) := by
  apply propext
  constructor
  · intro e
    cases c : anyb p n with
    | false => rfl
    | true => exact absurd e (so_nz hn c)
  · intro e
    exact (so_zero hn).mpr (fun i hi => by
      cases c : p i with
      | false => rfl
      | true => rw [anyb_iff.mpr ⟨i, hi, c⟩] at e; cases e)
theorem m_asks_0 (hR : tRef h d R) (hW : mW I nr nt pl) (hY : mY I nr nt y) {a : Nat} (h1 : anyb (mfit I pl nt y 0) nt = false) : tEv E 186 0 [.ref 56, .int (nI a)] [] (mS I J R) Q = Q (some 3) (mS (va_up (va_up I 56 (upd (I 56) 36 (nI a))) 82 (upd (I 82) 0 0)) J R) := by
  have h16 := hW.2.2.2.1
  have hW' : mW (va_up I 56 (upd (I 56) 36 (nI a))) nr nt pl := mW_cong hW rfl rfl (fun _ _ => rfl)
  have hY' : mY (va_up I 56 (upd (I 56) 36 (nI a))) nr nt y := hY
  have h3 : tm_inb 0 2 = true := by decide
  have h4 : (0 : Int32).toNatClampNeg = 0 := by decide
  have hz : so (mfit I pl nt y 0) nt = 0 := by rw [so_any (by omega), h1]
  have hs := fun {Q} => m_seen (E := E) (Q := Q) (J := J) hR hW' hY'
  have ht := fun {Q s} => m_told (E := E) (Q := Q) (J := J) (s := s) hR hW' (k := 0) (by decide)
  have e0 : so (fun t => mtold (va_up I 56 (upd (I 56) 36 (nI a))) 0 t && bt (msee (va_up I 56 (upd (I 56) 36 (nI a))) pl nt y) t) nt = 0 := (so_msee (y := y) (k := 0) hW).trans hz
  rw [show nI 0 = 0 from rfl] at ht
  simp only [e_186_0, e_186_1, e_186_2, e_186_5, e_186_6, e_186_9, e_186_10, e_186_11, e_186_12, e_186_13, e_186_16, e_186_19, e_186_20, e_186_21, e_186_24, e_186_25, e_186_26, e_186_29, e_186_30, rf_56_0 hR, rf_56_4 hR, rf_56_5 hR, rf_56_6 hR, rf_56_7 hR, rf_56_8 hR, rf_56_9 hR, rf_56_10 hR, rf_56_11 hR, rf_56_12 hR, rf_56_14 hR, rf_56_15 hR, rf_56_19 hR, rf_56_20 hR, rf_56_21 hR, rf_56_22 hR, rf_56_23 hR, rf_56_24 hR, rf_56_25 hR, rf_56_26 hR, rf_56_27 hR, rf_56_29 hR, rf_56_32 hR, rf_56_33 hR, rf_56_34 hR, rf_56_37 hR, rf_56_38 hR, kn_56, kn_57, kn_58, kn_59, kn_60, kn_61, kn_62, kn_63, kn_64, kn_65, kn_66, kn_67, kn_68, kn_69, kn_70, kn_71, kn_72, kn_73, kn_74, kn_75, kn_76, kn_77, kn_78, kn_79, kn_80, kn_81, kn_82, kn_83, ln_57, ln_58, ln_59, ln_60, ln_61, ln_62, ln_63, ln_64, ln_65, ln_66, ln_67, ln_68, ln_69, ln_70, ln_71, ln_72, ln_73, ln_74, ln_75, ln_76, ln_77, ln_78, ln_79, ln_80, ln_81, ln_82, ln_83, va_rf_some, push_s, push_n, nb0, nb1, nbb, Nat.reduceLT, hs, ht, e0, h3, h4, vu, ud, Nat.reduceEqDiff, reduceIte]
theorem m_asks_1 (hR : tRef h d R) (hW : mW I nr nt pl) (hY : mY I nr nt y) {a : Nat} (ha : a < 12) (h1 : anyb (mfit I pl nt y 0) nt = true) (h2 : of2 a = true) (h5 : anyb (mfit I pl nt y 1) nt = false) : tEv E 186 0 [.ref 56, .int (nI a)] [] (mS I J R) Q = Q (some 3) (mS (mask I a (so (mfit I pl nt y 0) nt) 0) J R) := by
  have h16 := hW.2.2.2.1
  have hW' : mW (va_up I 56 (upd (I 56) 36 (nI a))) nr nt pl := mW_cong hW rfl rfl (fun _ _ => rfl)
  have hY' : mY (va_up I 56 (upd (I 56) 36 (nI a))) nr nt y := hY
  have hW2 : ∀ F, mW (va_up (va_up I 56 (upd (I 56) 36 (nI a))) 82 F) nr nt pl := fun F => mW_cong hW rfl rfl (fun _ _ => rfl)
  have hY2 : ∀ F, mY (va_up (va_up I 56 (upd (I 56) 36 (nI a))) 82 F) nr nt y := fun F => hY
  have h3 : tm_inb 0 2 = true := by decide
  have h4 : (0 : Int32).toNatClampNeg = 0 := by decide
  have g3 : tm_inb 1 2 = true := by decide
  have g4 : (1 : Int32).toNatClampNeg = 1 := by decide
  have hz : so (mfit I pl nt y 1) nt = 0 := by rw [so_any (by omega), h5]
  have hnz : (so (mfit I pl nt y 0) nt = 0) = False := eq_false (so_nz (by omega) h1)
  have hs := fun {Q} => m_seen (E := E) (Q := Q) (J := J) hR hW' hY'
  have ht := fun {Q s} => m_told (E := E) (Q := Q) (J := J) (s := s) hR hW' (k := 0) (by decide)
  have hs2 := fun {Q F} => m_seen (E := E) (Q := Q) (J := J) hR (hW2 F) (hY2 F)
  have ht2 := fun {Q s F} => m_told (E := E) (Q := Q) (J := J) (s := s) hR (hW2 F) (k := 1) (by decide)
  have e0 : so (fun t => mtold (va_up I 56 (upd (I 56) 36 (nI a))) 0 t && bt (msee (va_up I 56 (upd (I 56) 36 (nI a))) pl nt y) t) nt = so (mfit I pl nt y 0) nt := (so_msee (y := y) (k := 0) hW)
  have e1 : ∀ F, so (fun t => mtold (va_up (va_up I 56 (upd (I 56) 36 (nI a))) 82 F) 1 t && bt (msee (va_up (va_up I 56 (upd (I 56) 36 (nI a))) 82 F) pl nt y) t) nt = 0 := fun F => (so_msee (y := y) (k := 1) hW).trans hz
  rw [show nI 0 = 0 from rfl] at ht
  rw [show nI 1 = 1 from rfl] at ht2
  simp only [e_186_0, e_186_1, e_186_2, e_186_5, e_186_6, e_186_9, e_186_10, e_186_11, e_186_12, e_186_13, e_186_16, e_186_19, e_186_20, e_186_21, e_186_24, e_186_25, e_186_26, e_186_29, e_186_30, e_186_31, e_186_32, e_186_35, e_186_36, e_186_37, e_186_40, e_186_43, e_186_44, e_186_45, e_186_46, e_186_49, e_186_52, e_186_55, e_186_56, e_186_57, e_186_58, e_186_61, e_186_64, e_186_65, e_186_68, e_186_69, e_186_70, e_186_73, e_186_74, e_186_81, rf_56_0 hR, rf_56_4 hR, rf_56_5 hR, rf_56_6 hR, rf_56_7 hR, rf_56_8 hR, rf_56_9 hR, rf_56_10 hR, rf_56_11 hR, rf_56_12 hR, rf_56_14 hR, rf_56_15 hR, rf_56_19 hR, rf_56_20 hR, rf_56_21 hR, rf_56_22 hR, rf_56_23 hR, rf_56_24 hR, rf_56_25 hR, rf_56_26 hR, rf_56_27 hR, rf_56_29 hR, rf_56_32 hR, rf_56_33 hR, rf_56_34 hR, rf_56_37 hR, rf_56_38 hR, kn_56, kn_57, kn_58, kn_59, kn_60, kn_61, kn_62, kn_63, kn_64, kn_65, kn_66, kn_67, kn_68, kn_69, kn_70, kn_71, kn_72, kn_73, kn_74, kn_75, kn_76, kn_77, kn_78, kn_79, kn_80, kn_81, kn_82, kn_83, ln_57, ln_58, ln_59, ln_60, ln_61, ln_62, ln_63, ln_64, ln_65, ln_66, ln_67, ln_68, ln_69, ln_70, ln_71, ln_72, ln_73, ln_74, ln_75, ln_76, ln_77, ln_78, ln_79, ln_80, ln_81, ln_82, ln_83, va_rf_some, push_s, push_n, nb0, nb1, nbb, Nat.reduceLT, hs, ht, e0, hs2, ht2, e1, hnz, if_false, m_isOfTwo (show a < 100 by omega), h2, b2i_0, Bool.true_eq_false, h3, h4, g3, g4, vu, ud, vu_vu, Nat.reduceEqDiff, reduceIte]
  rfl
theorem m_asks_2 (hR : tRef h d R) (hW : mW I nr nt pl) (hY : mY I nr nt y) {a : Nat} (ha : a < 12) (h1 : anyb (mfit I pl nt y 0) nt = true) (h5 : of2 a = true → anyb (mfit I pl nt y 1) nt = true) {v : Int32} {I2 : Nat → Nat → Int32} (hr : ∀ Q, tEv E 176 0 [.ref 56, tm_dum, tm_dum, tm_dum] [] (mS (mask I a (so (mfit I pl nt y 0) nt) (if of2 a = true then so (mfit I pl nt y 1) nt else 0)) J R) Q = Q (some v) (mS I2 J R)) : tEv E 186 0 [.ref 56, .int (nI a)] [] (mS I J R) Q = Q (some v) (mS I2 J R) := by
  have h16 := hW.2.2.2.1
  have hW' : mW (va_up I 56 (upd (I 56) 36 (nI a))) nr nt pl := mW_cong hW rfl rfl (fun _ _ => rfl)
  have hY' : mY (va_up I 56 (upd (I 56) 36 (nI a))) nr nt y := hY
  have hW2 : ∀ F, mW (va_up (va_up I 56 (upd (I 56) 36 (nI a))) 82 F) nr nt pl := fun F => mW_cong hW rfl rfl (fun _ _ => rfl)
  have hY2 : ∀ F, mY (va_up (va_up I 56 (upd (I 56) 36 (nI a))) 82 F) nr nt y := fun F => hY
  have h3 : tm_inb 0 2 = true := by decide
  have h4 : (0 : Int32).toNatClampNeg = 0 := by decide
  have g3 : tm_inb 1 2 = true := by decide
  have g4 : (1 : Int32).toNatClampNeg = 1 := by decide
  have hnz : (so (mfit I pl nt y 0) nt = 0) = False := eq_false (so_nz (by omega) h1)
  have hs := fun {Q} => m_seen (E := E) (Q := Q) (J := J) hR hW' hY'
  have ht := fun {Q s} => m_told (E := E) (Q := Q) (J := J) (s := s) hR hW' (k := 0) (by decide)
  have hs2 := fun {Q F} => m_seen (E := E) (Q := Q) (J := J) hR (hW2 F) (hY2 F)
  have ht2 := fun {Q s F} => m_told (E := E) (Q := Q) (J := J) (s := s) hR (hW2 F) (k := 1) (by decide)
  have e0 : so (fun t => mtold (va_up I 56 (upd (I 56) 36 (nI a))) 0 t && bt (msee (va_up I 56 (upd (I 56) 36 (nI a))) pl nt y) t) nt = so (mfit I pl nt y 0) nt := (so_msee (y := y) (k := 0) hW)
  have e1 : ∀ F, so (fun t => mtold (va_up (va_up I 56 (upd (I 56) 36 (nI a))) 82 F) 1 t && bt (msee (va_up (va_up I 56 (upd (I 56) 36 (nI a))) 82 F) pl nt y) t) nt = so (mfit I pl nt y 1) nt := fun F => (so_msee (y := y) (k := 1) hW)
  rw [show nI 0 = 0 from rfl] at ht
  rw [show nI 1 = 1 from rfl] at ht2
  cases h2 : of2 a with
  | true =>
    have hnz1 : (so (mfit I pl nt y 1) nt = 0) = False := eq_false (so_nz (by omega) (h5 h2))
    rw [h2] at hr
    simp only [if_true, mask] at hr
    simp only [e_186_0, e_186_1, e_186_2, e_186_5, e_186_6, e_186_9, e_186_10, e_186_11, e_186_12, e_186_13, e_186_16, e_186_19, e_186_20, e_186_21, e_186_24, e_186_25, e_186_26, e_186_29, e_186_30, e_186_31, e_186_32, e_186_35, e_186_36, e_186_37, e_186_40, e_186_43, e_186_44, e_186_45, e_186_46, e_186_49, e_186_52, e_186_55, e_186_56, e_186_57, e_186_58, e_186_61, e_186_64, e_186_65, e_186_68, e_186_69, e_186_70, e_186_73, e_186_74, e_186_77, e_186_78, e_186_81, rf_56_0 hR, rf_56_4 hR, rf_56_5 hR, rf_56_6 hR, rf_56_7 hR, rf_56_8 hR, rf_56_9 hR, rf_56_10 hR, rf_56_11 hR, rf_56_12 hR, rf_56_14 hR, rf_56_15 hR, rf_56_19 hR, rf_56_20 hR, rf_56_21 hR, rf_56_22 hR, rf_56_23 hR, rf_56_24 hR, rf_56_25 hR, rf_56_26 hR, rf_56_27 hR, rf_56_29 hR, rf_56_32 hR, rf_56_33 hR, rf_56_34 hR, rf_56_37 hR, rf_56_38 hR, kn_56, kn_57, kn_58, kn_59, kn_60, kn_61, kn_62, kn_63, kn_64, kn_65, kn_66, kn_67, kn_68, kn_69, kn_70, kn_71, kn_72, kn_73, kn_74, kn_75, kn_76, kn_77, kn_78, kn_79, kn_80, kn_81, kn_82, kn_83, ln_57, ln_58, ln_59, ln_60, ln_61, ln_62, ln_63, ln_64, ln_65, ln_66, ln_67, ln_68, ln_69, ln_70, ln_71, ln_72, ln_73, ln_74, ln_75, ln_76, ln_77, ln_78, ln_79, ln_80, ln_81, ln_82, ln_83, va_rf_some, push_s, push_n, nb0, nb1, nbb, Nat.reduceLT, hs, ht, e0, hs2, ht2, e1, hnz, hnz1, if_false, m_isOfTwo (show a < 100 by omega), h2, b2i_0, Bool.true_eq_false, h3, h4, g3, g4, vu, ud, vu_vu, Nat.reduceEqDiff, reduceIte, hr]
  | false =>
    rw [h2] at hr
    simp only [Bool.false_eq_true, if_false, mask] at hr
    simp only [e_186_0, e_186_1, e_186_2, e_186_5, e_186_6, e_186_9, e_186_10, e_186_11, e_186_12, e_186_13, e_186_16, e_186_19, e_186_20, e_186_21, e_186_24, e_186_25, e_186_26, e_186_29, e_186_30, e_186_31, e_186_32, e_186_35, e_186_36, e_186_37, e_186_40, e_186_43, e_186_44, e_186_45, e_186_46, e_186_49, e_186_52, e_186_55, e_186_56, e_186_57, e_186_58, e_186_61, e_186_64, e_186_65, e_186_68, e_186_69, e_186_70, e_186_73, e_186_74, e_186_77, e_186_78, e_186_81, rf_56_0 hR, rf_56_4 hR, rf_56_5 hR, rf_56_6 hR, rf_56_7 hR, rf_56_8 hR, rf_56_9 hR, rf_56_10 hR, rf_56_11 hR, rf_56_12 hR, rf_56_14 hR, rf_56_15 hR, rf_56_19 hR, rf_56_20 hR, rf_56_21 hR, rf_56_22 hR, rf_56_23 hR, rf_56_24 hR, rf_56_25 hR, rf_56_26 hR, rf_56_27 hR, rf_56_29 hR, rf_56_32 hR, rf_56_33 hR, rf_56_34 hR, rf_56_37 hR, rf_56_38 hR, kn_56, kn_57, kn_58, kn_59, kn_60, kn_61, kn_62, kn_63, kn_64, kn_65, kn_66, kn_67, kn_68, kn_69, kn_70, kn_71, kn_72, kn_73, kn_74, kn_75, kn_76, kn_77, kn_78, kn_79, kn_80, kn_81, kn_82, kn_83, ln_57, ln_58, ln_59, ln_60, ln_61, ln_62, ln_63, ln_64, ln_65, ln_66, ln_67, ln_68, ln_69, ln_70, ln_71, ln_72, ln_73, ln_74, ln_75, ln_76, ln_77, ln_78, ln_79, ln_80, ln_81, ln_82, ln_83, va_rf_some, push_s, push_n, nb0, nb1, nbb, Nat.reduceLT, hs, ht, e0, hs2, ht2, e1, hnz, if_false, m_isOfTwo (show a < 100 by omega), h2, b2i_0, Bool.true_eq_false, h3, h4, g3, g4, vu, ud, vu_vu, Nat.reduceEqDiff, reduceIte, hr]
/-- the answer: of the doubt k (0 or 1) -/
theorem m_answered_0 (hR : tRef h d R) (hW : mW I nr nt pl) {k : Nat} (hk : k < 2) (hd : I 56 35 = nI (k + 1)) (h1 : anyb (fun t => mtold I 0 t && bt (I 82 k) t) nt = false) : tEv E 177 0 [.ref 56, tm_dum] [] (mS I J R) Q = Q (some 3) (mS I J R) := by
  have h16 := hW.2.2.2.1
  have h3 := inb_nI (j := k) (n := 2) (by omega) (by decide)
  have h4 := nI_cl (n := k) (by omega)
  have h5 : nI (k + 1) - 1 = nI k := pk_sub (a := k + 1) (b := 1) (by omega)
  have ht := fun {Q s} => m_told (E := E) (Q := Q) (J := J) (s := s) hR hW (k := 0) (by decide)
  rw [show nI 0 = 0 from rfl] at ht
  have hz : so (fun t => mtold I 0 t && bt (I 82 k) t) nt = 0 := by rw [so_any (by omega), h1]
  simp only [e_177_0, e_177_1, e_177_2, e_177_3, e_177_6, e_177_7, e_177_10, e_177_11, e_177_12, e_177_13, e_177_16, e_177_17, e_177_18, e_177_21, e_177_22, rf_56_0 hR, rf_56_4 hR, rf_56_5 hR, rf_56_6 hR, rf_56_7 hR, rf_56_8 hR, rf_56_9 hR, rf_56_10 hR, rf_56_11 hR, rf_56_12 hR, rf_56_14 hR, rf_56_15 hR, rf_56_19 hR, rf_56_20 hR, rf_56_21 hR, rf_56_22 hR, rf_56_23 hR, rf_56_24 hR, rf_56_25 hR, rf_56_26 hR, rf_56_27 hR, rf_56_29 hR, rf_56_32 hR, rf_56_33 hR, rf_56_34 hR, rf_56_37 hR, rf_56_38 hR, kn_56, kn_57, kn_58, kn_59, kn_60, kn_61, kn_62, kn_63, kn_64, kn_65, kn_66, kn_67, kn_68, kn_69, kn_70, kn_71, kn_72, kn_73, kn_74, kn_75, kn_76, kn_77, kn_78, kn_79, kn_80, kn_81, kn_82, kn_83, ln_57, ln_58, ln_59, ln_60, ln_61, ln_62, ln_63, ln_64, ln_65, ln_66, ln_67, ln_68, ln_69, ln_70, ln_71, ln_72, ln_73, ln_74, ln_75, ln_76, ln_77, ln_78, ln_79, ln_80, ln_81, ln_82, ln_83, va_rf_some, push_s, push_n, nb0, nb1, nbb, Nat.reduceLT, hd, h5, h3, h4, ht, hz, reduceIte]
theorem m_answered_1 (hR : tRef h d R) (hW : mW I nr nt pl) {k : Nat} (hk : k < 2) (hd : I 56 35 = nI (k + 1)) (h1 : anyb (fun t => mtold I 0 t && bt (I 82 k) t) nt = true) {v : Int32} {I2 : Nat → Nat → Int32} (hr : ∀ Q, tEv E 176 0 [.ref 56, tm_dum, tm_dum, tm_dum] [] (mS (va_up I 82 (upd (I 82) k (so (fun t => mtold I 0 t && bt (I 82 k) t) nt))) J R) Q = Q (some v) (mS I2 J R)) : tEv E 177 0 [.ref 56, tm_dum] [] (mS I J R) Q = Q (some v) (mS I2 J R) := by
  have h16 := hW.2.2.2.1
  have h3 := inb_nI (j := k) (n := 2) (by omega) (by decide)
  have h4 := nI_cl (n := k) (by omega)
  have h5 : nI (k + 1) - 1 = nI k := pk_sub (a := k + 1) (b := 1) (by omega)
  have ht := fun {Q s} => m_told (E := E) (Q := Q) (J := J) (s := s) hR hW (k := 0) (by decide)
  rw [show nI 0 = 0 from rfl] at ht
  have hz : (so (fun t => mtold I 0 t && bt (I 82 k) t) nt = 0) = False := eq_false (so_nz (by omega) h1)
  simp only [e_177_0, e_177_1, e_177_2, e_177_3, e_177_6, e_177_7, e_177_10, e_177_11, e_177_12, e_177_13, e_177_16, e_177_17, e_177_18, e_177_21, e_177_22, e_177_23, e_177_24, e_177_27, e_177_28, e_177_31, e_177_32, e_177_33, e_177_34, e_177_35, e_177_36, e_177_39, rf_56_0 hR, rf_56_4 hR, rf_56_5 hR, rf_56_6 hR, rf_56_7 hR, rf_56_8 hR, rf_56_9 hR, rf_56_10 hR, rf_56_11 hR, rf_56_12 hR, rf_56_14 hR, rf_56_15 hR, rf_56_19 hR, rf_56_20 hR, rf_56_21 hR, rf_56_22 hR, rf_56_23 hR, rf_56_24 hR, rf_56_25 hR, rf_56_26 hR, rf_56_27 hR, rf_56_29 hR, rf_56_32 hR, rf_56_33 hR, rf_56_34 hR, rf_56_37 hR, rf_56_38 hR, kn_56, kn_57, kn_58, kn_59, kn_60, kn_61, kn_62, kn_63, kn_64, kn_65, kn_66, kn_67, kn_68, kn_69, kn_70, kn_71, kn_72, kn_73, kn_74, kn_75, kn_76, kn_77, kn_78, kn_79, kn_80, kn_81, kn_82, kn_83, ln_57, ln_58, ln_59, ln_60, ln_61, ln_62, ln_63, ln_64, ln_65, ln_66, ln_67, ln_68, ln_69, ln_70, ln_71, ln_72, ln_73, ln_74, ln_75, ln_76, ln_77, ln_78, ln_79, ln_80, ln_81, ln_82, ln_83, va_rf_some, push_s, push_n, nb0, nb1, nbb, Nat.reduceLT, hd, h5, h3, h4, ht, hz, if_false, hr]
theorem m_mayTake (hR : tRef h d R) (hW : mW I nr nt pl) {x : Nat} (hx : x < nt) : tEv E 181 0 [.ref 56, .int (nI x)] [] (mS I J R) Q = Q (some (b2i (mmay I pl nt x))) (mS I J R) := by
  have h16 := hW.2.2.2.1
  have h6 := hW.2.2.1
  have hf := mW_ch hW hx 15
  have hf' : fin pl x < 100 := by unfold fin; omega
  have e2 : (nI (fin pl x) = 30) = (fin pl x = 30) := propext (nI_eq (b := 30) (by omega) (by omega))
  have hend := fun {Q} => m_end (E := E) (Q := Q) (J := J) hR hW hx false
  rw [show b2i false = 0 from rfl] at hend
  simp only [e_181_0, e_181_1, e_181_2, e_181_4, e_181_7, e_181_10, e_181_11, e_181_12, e_181_13, e_181_16, e_181_18, e_181_21, e_181_22, e_181_23, e_181_26, e_181_29, e_181_30, e_181_33, e_181_34, rf_56_0 hR, rf_56_4 hR, rf_56_5 hR, rf_56_6 hR, rf_56_7 hR, rf_56_8 hR, rf_56_9 hR, rf_56_10 hR, rf_56_11 hR, rf_56_12 hR, rf_56_14 hR, rf_56_15 hR, rf_56_19 hR, rf_56_20 hR, rf_56_21 hR, rf_56_22 hR, rf_56_23 hR, rf_56_24 hR, rf_56_25 hR, rf_56_26 hR, rf_56_27 hR, rf_56_29 hR, rf_56_32 hR, rf_56_33 hR, rf_56_34 hR, rf_56_37 hR, rf_56_38 hR, kn_56, kn_57, kn_58, kn_59, kn_60, kn_61, kn_62, kn_63, kn_64, kn_65, kn_66, kn_67, kn_68, kn_69, kn_70, kn_71, kn_72, kn_73, kn_74, kn_75, kn_76, kn_77, kn_78, kn_79, kn_80, kn_81, kn_82, kn_83, ln_57, ln_58, ln_59, ln_60, ln_61, ln_62, ln_63, ln_64, ln_65, ln_66, ln_67, ln_68, ln_69, ln_70, ln_71, ln_72, ln_73, ln_74, ln_75, ln_76, ln_77, ln_78, ln_79, ln_80, ln_81, ln_82, ln_83, va_rf_some, push_s, push_n, nb0, nb1, nbb, Nat.reduceLT, m_isTrait hR (show x < 16 by omega), hend, m_whyTake hR hW hx, b2i_0, Bool.false_and, Bool.false_eq_true, if_false, e2]
  unfold mmay mtr
  by_cases h1 : I 62 x &&& 8 = 0
  · by_cases h2 : fin pl x = 30
    · simp [h1, h2, b2i]
    · by_cases h3 : mtake I pl nt x = 0 <;> simp [h1, h2, h3, b2i]
  · simp [h1, b2i]
theorem m_waits (hR : tRef h d R) (hW : mW I nr nt pl) {u : Nat} (hu : u ≤ 8) (h1 : I 56 1 = nI u) : tEv E 185 0 [.ref 56] [] (mS I J R) Q = Q (some 0) (mS (mfin I u (mturn (mmind (I 57) u) nt)) J R) := by
  have h16 := hW.2.2.2.1
  have hmi := fun {Q} => m_mindsD (E := E) (Q := Q) (J := J) (I := I) hR hu h1
  have htu := fun {F Q} => m_turnsD (E := E) (Q := Q) (J := J) (u := u) (F := F) (I := I) (nt := nt) hR hW.2.1 h16
  simp only [e_185_0, e_185_1, e_185_4, e_185_5, e_185_8, rf_56_0 hR, rf_56_4 hR, rf_56_5 hR, rf_56_6 hR, rf_56_7 hR, rf_56_8 hR, rf_56_9 hR, rf_56_10 hR, rf_56_11 hR, rf_56_12 hR, rf_56_14 hR, rf_56_15 hR, rf_56_19 hR, rf_56_20 hR, rf_56_21 hR, rf_56_22 hR, rf_56_23 hR, rf_56_24 hR, rf_56_25 hR, rf_56_26 hR, rf_56_27 hR, rf_56_29 hR, rf_56_32 hR, rf_56_33 hR, rf_56_34 hR, rf_56_37 hR, rf_56_38 hR, kn_56, kn_57, kn_58, kn_59, kn_60, kn_61, kn_62, kn_63, kn_64, kn_65, kn_66, kn_67, kn_68, kn_69, kn_70, kn_71, kn_72, kn_73, kn_74, kn_75, kn_76, kn_77, kn_78, kn_79, kn_80, kn_81, kn_82, kn_83, ln_57, ln_58, ln_59, ln_60, ln_61, ln_62, ln_63, ln_64, ln_65, ln_66, ln_67, ln_68, ln_69, ln_70, ln_71, ln_72, ln_73, ln_74, ln_75, ln_76, ln_77, ln_78, ln_79, ln_80, ln_81, ln_82, ln_83, va_rf_some, push_s, push_n, nb0, nb1, nbb, Nat.reduceLT, hmi, htu]
theorem m_goesBy_0 (hR : tRef h d R) (hW : mW I nr nt pl) (hY : mY I nr nt y) {b : Nat} (hb : b < 4) (h1 : I 64 (4 * y + b) = -4) : tEv E 187 0 [.ref 56, .int (nI b), tm_dum, tm_dum] [] (mS I J R) Q = Q (some 12) (mS I J R) := by
  have h6 := hW.2.2.1
  have hy := hY.2.1
  have hix := inb_nI (j := 4 * y + b) (n := 24) (by omega) (by decide)
  have hcl := nI_cl (n := 4 * y + b) (by omega)
  have he : (4 : Int32) * nI y + nI b = nI (4 * y + b) := by rw [show (4 : Int32) = nI 4 from rfl, nI_mul, nI_add]
  have h48 : tm_inb 48 468 = true := by decide
  have hc48 : (48 : Int32).toNatClampNeg = 48 := by decide
  simp only [e_187_0, e_187_1, e_187_4, e_187_5, e_187_6, e_187_9, e_187_11, e_187_12, e_187_13, e_187_14, e_187_15, e_187_16, e_187_17, e_187_18, e_187_21, e_187_22, e_187_23, e_187_26, e_187_28, e_187_29, e_187_30, e_187_31, e_187_32, e_187_33, e_187_34, e_187_35, e_187_37, e_187_40, e_187_42, rf_56_0 hR, rf_56_4 hR, rf_56_5 hR, rf_56_6 hR, rf_56_7 hR, rf_56_8 hR, rf_56_9 hR, rf_56_10 hR, rf_56_11 hR, rf_56_12 hR, rf_56_14 hR, rf_56_15 hR, rf_56_19 hR, rf_56_20 hR, rf_56_21 hR, rf_56_22 hR, rf_56_23 hR, rf_56_24 hR, rf_56_25 hR, rf_56_26 hR, rf_56_27 hR, rf_56_29 hR, rf_56_32 hR, rf_56_33 hR, rf_56_34 hR, rf_56_37 hR, rf_56_38 hR, kn_56, kn_57, kn_58, kn_59, kn_60, kn_61, kn_62, kn_63, kn_64, kn_65, kn_66, kn_67, kn_68, kn_69, kn_70, kn_71, kn_72, kn_73, kn_74, kn_75, kn_76, kn_77, kn_78, kn_79, kn_80, kn_81, kn_82, kn_83, ln_57, ln_58, ln_59, ln_60, ln_61, ln_62, ln_63, ln_64, ln_65, ln_66, ln_67, ln_68, ln_69, ln_70, ln_71, ln_72, ln_73, ln_74, ln_75, ln_76, ln_77, ln_78, ln_79, ln_80, ln_81, ln_82, ln_83, va_rf_some, push_s, push_n, nb0, nb1, nbb, Nat.reduceLT, h48, hc48, hY.1, he, hix, hcl, h1, if_true]
theorem m_goesBy_1 (hR : tRef h d R) (hW : mW I nr nt pl) (hY : mY I nr nt y) {b : Nat} (hb : b < 4) (h1 : I 64 (4 * y + b) ≠ -4) {k : Nat} (hk : k < nt) (hd : I 65 (4 * y + b) = nI k) (hc : mcl I k = true) : tEv E 187 0 [.ref 56, .int (nI b), tm_dum, tm_dum] [] (mS I J R) Q = Q (some 6) (mS I J R) := by
  have h6 := hW.2.2.1
  have h16 := hW.2.2.2.1
  have hy := hY.2.1
  have hix := inb_nI (j := 4 * y + b) (n := 24) (by omega) (by decide)
  have hcl := nI_cl (n := 4 * y + b) (by omega)
  have he : (4 : Int32) * nI y + nI b = nI (4 * y + b) := by rw [show (4 : Int32) = nI 4 from rfl, nI_mul, nI_add]
  have h48 : tm_inb 48 468 = true := by decide
  have hc48 : (48 : Int32).toNatClampNeg = 48 := by decide
  have e4 : (nI k = -4) = False := eq_false (fun e => by
    have := nI_pos (n := k) (by omega)
    rw [e] at this
    exact this (by decide))
  simp only [e_187_0, e_187_1, e_187_4, e_187_5, e_187_6, e_187_9, e_187_11, e_187_12, e_187_13, e_187_14, e_187_15, e_187_16, e_187_17, e_187_18, e_187_21, e_187_22, e_187_23, e_187_26, e_187_28, e_187_29, e_187_30, e_187_31, e_187_32, e_187_33, e_187_34, e_187_35, e_187_37, e_187_40, e_187_42, e_187_43, e_187_44, e_187_46, e_187_49, e_187_50, e_187_51, e_187_54, e_187_57, e_187_59, rf_56_0 hR, rf_56_4 hR, rf_56_5 hR, rf_56_6 hR, rf_56_7 hR, rf_56_8 hR, rf_56_9 hR, rf_56_10 hR, rf_56_11 hR, rf_56_12 hR, rf_56_14 hR, rf_56_15 hR, rf_56_19 hR, rf_56_20 hR, rf_56_21 hR, rf_56_22 hR, rf_56_23 hR, rf_56_24 hR, rf_56_25 hR, rf_56_26 hR, rf_56_27 hR, rf_56_29 hR, rf_56_32 hR, rf_56_33 hR, rf_56_34 hR, rf_56_37 hR, rf_56_38 hR, kn_56, kn_57, kn_58, kn_59, kn_60, kn_61, kn_62, kn_63, kn_64, kn_65, kn_66, kn_67, kn_68, kn_69, kn_70, kn_71, kn_72, kn_73, kn_74, kn_75, kn_76, kn_77, kn_78, kn_79, kn_80, kn_81, kn_82, kn_83, ln_57, ln_58, ln_59, ln_60, ln_61, ln_62, ln_63, ln_64, ln_65, ln_66, ln_67, ln_68, ln_69, ln_70, ln_71, ln_72, ln_73, ln_74, ln_75, ln_76, ln_77, ln_78, ln_79, ln_80, ln_81, ln_82, ln_83, va_rf_some, push_s, push_n, nb0, nb1, nbb, Nat.reduceLT, h48, hc48, hY.1, he, hix, hcl, h1, if_false, hd, e4, m_isClosed hR (show k < 16 by omega), hc, b2i_0, Bool.true_eq_false]
theorem m_goesBy_2 (hR : tRef h d R) (hW : mW I nr nt pl) (hY : mY I nr nt y) {b u : Nat} (hu : u ≤ 8) (h1u : I 56 1 = nI u) (hb : b < 4) (h1 : I 64 (4 * y + b) ≠ -4) (hd : I 65 (4 * y + b) = -4 ∨ ∃ k, k < nt ∧ I 65 (4 * y + b) = nI k ∧ mcl I k = false) : tEv E 187 0 [.ref 56, .int (nI b), tm_dum, tm_dum] [] (mS I J R) Q = Q (some 0) (mS (mfin I u (mturn (upd (mmind (I 57) u) 48 (I 64 (4 * y + b))) nt)) J R) := by
  have h6 := hW.2.2.1
  have h16 := hW.2.2.2.1
  have hy := hY.2.1
  have hix := inb_nI (j := 4 * y + b) (n := 24) (by omega) (by decide)
  have hcl := nI_cl (n := 4 * y + b) (by omega)
  have he : (4 : Int32) * nI y + nI b = nI (4 * y + b) := by rw [show (4 : Int32) = nI 4 from rfl, nI_mul, nI_add]
  have h48 : tm_inb 48 468 = true := by decide
  have hc48 : (48 : Int32).toNatClampNeg = 48 := by decide
  have hmi := fun {Q} => m_mindsD (E := E) (Q := Q) (J := J) (I := I) hR hu h1u
  have htu := fun {F Q} => m_turnsD (E := E) (Q := Q) (J := J) (u := u) (F := F) (I := I) (nt := nt) hR hW.2.1 h16
  rcases hd with hd | ⟨k, hk, hd, hc⟩
  · simp only [e_187_0, e_187_1, e_187_4, e_187_5, e_187_6, e_187_9, e_187_11, e_187_12, e_187_13, e_187_14, e_187_15, e_187_16, e_187_17, e_187_18, e_187_21, e_187_22, e_187_23, e_187_26, e_187_28, e_187_29, e_187_30, e_187_31, e_187_32, e_187_33, e_187_34, e_187_35, e_187_37, e_187_40, e_187_42, e_187_43, e_187_44, e_187_46, e_187_49, e_187_50, e_187_51, e_187_54, e_187_57, e_187_59, e_187_60, e_187_61, e_187_64, e_187_65, e_187_68, e_187_70, e_187_71, e_187_72, e_187_73, e_187_76, rf_56_0 hR, rf_56_4 hR, rf_56_5 hR, rf_56_6 hR, rf_56_7 hR, rf_56_8 hR, rf_56_9 hR, rf_56_10 hR, rf_56_11 hR, rf_56_12 hR, rf_56_14 hR, rf_56_15 hR, rf_56_19 hR, rf_56_20 hR, rf_56_21 hR, rf_56_22 hR, rf_56_23 hR, rf_56_24 hR, rf_56_25 hR, rf_56_26 hR, rf_56_27 hR, rf_56_29 hR, rf_56_32 hR, rf_56_33 hR, rf_56_34 hR, rf_56_37 hR, rf_56_38 hR, kn_56, kn_57, kn_58, kn_59, kn_60, kn_61, kn_62, kn_63, kn_64, kn_65, kn_66, kn_67, kn_68, kn_69, kn_70, kn_71, kn_72, kn_73, kn_74, kn_75, kn_76, kn_77, kn_78, kn_79, kn_80, kn_81, kn_82, kn_83, ln_57, ln_58, ln_59, ln_60, ln_61, ln_62, ln_63, ln_64, ln_65, ln_66, ln_67, ln_68, ln_69, ln_70, ln_71, ln_72, ln_73, ln_74, ln_75, ln_76, ln_77, ln_78, ln_79, ln_80, ln_81, ln_82, ln_83, va_rf_some, push_s, push_n, nb0, nb1, nbb, Nat.reduceLT, h48, hc48, hY.1, he, hix, hcl, h1, if_false, hd, if_true, hmi, mmd_up, mmd_57, htu]
  · have e4 : (nI k = -4) = False := eq_false (fun e => by
      have := nI_pos (n := k) (by omega)
      rw [e] at this
      exact this (by decide))
    simp only [e_187_0, e_187_1, e_187_4, e_187_5, e_187_6, e_187_9, e_187_11, e_187_12, e_187_13, e_187_14, e_187_15, e_187_16, e_187_17, e_187_18, e_187_21, e_187_22, e_187_23, e_187_26, e_187_28, e_187_29, e_187_30, e_187_31, e_187_32, e_187_33, e_187_34, e_187_35, e_187_37, e_187_40, e_187_42, e_187_43, e_187_44, e_187_46, e_187_49, e_187_50, e_187_51, e_187_54, e_187_57, e_187_59, e_187_60, e_187_61, e_187_64, e_187_65, e_187_68, e_187_70, e_187_71, e_187_72, e_187_73, e_187_76, rf_56_0 hR, rf_56_4 hR, rf_56_5 hR, rf_56_6 hR, rf_56_7 hR, rf_56_8 hR, rf_56_9 hR, rf_56_10 hR, rf_56_11 hR, rf_56_12 hR, rf_56_14 hR, rf_56_15 hR, rf_56_19 hR, rf_56_20 hR, rf_56_21 hR, rf_56_22 hR, rf_56_23 hR, rf_56_24 hR, rf_56_25 hR, rf_56_26 hR, rf_56_27 hR, rf_56_29 hR, rf_56_32 hR, rf_56_33 hR, rf_56_34 hR, rf_56_37 hR, rf_56_38 hR, kn_56, kn_57, kn_58, kn_59, kn_60, kn_61, kn_62, kn_63, kn_64, kn_65, kn_66, kn_67, kn_68, kn_69, kn_70, kn_71, kn_72, kn_73, kn_74, kn_75, kn_76, kn_77, kn_78, kn_79, kn_80, kn_81, kn_82, kn_83, ln_57, ln_58, ln_59, ln_60, ln_61, ln_62, ln_63, ln_64, ln_65, ln_66, ln_67, ln_68, ln_69, ln_70, ln_71, ln_72, ln_73, ln_74, ln_75, ln_76, ln_77, ln_78, ln_79, ln_80, ln_81, ln_82, ln_83, va_rf_some, push_s, push_n, nb0, nb1, nbb, Nat.reduceLT, h48, hc48, hY.1, he, hix, hcl, h1, if_false, hd, e4, m_isClosed hR (show k < 16 by omega), hc, b2i_0, if_true, hmi, mmd_up, mmd_57, htu]
end M8
