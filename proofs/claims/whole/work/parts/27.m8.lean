/-! ===== the model: what is said ===== -/
def mfit (I : Nat → Nat → Int32) (pl : Nat → Nat) (nt y k t : Nat) : Bool := mtold I k t && mseen I pl nt y t
def mask (I : Nat → Nat → Int32) (a : Nat) (f0 f1 : Int32) : Nat → Nat → Int32 := va_up (va_up I 56 (upd (I 56) 36 (nI a))) 82 (upd (upd (I 82) 0 f0) 1 f1)
def mmay (I : Nat → Nat → Int32) (pl : Nat → Nat) (nt x : Nat) : Bool := !mtr I x 8 && (fin pl x != 30) && decide (mtake I pl nt x = 0)
section M8
variable {E : tm_Env} {Q : Option Int32 → tm_St → Prop} {I : Nat → Nat → Int32} {J : Nat → Nat → Int64} {R : Nat → Nat → Option Nat} {h d : Nat} {nr nt y : Nat} {pl : Nat → Nat}
theorem so_msee (hW : mW I nr nt pl) {k : Nat} : so (fun t => mtold I k t && bt (msee I pl nt y) t) nt = so (mfit I pl nt y k) nt := by
  have h16 := hW.2.2.2.1
  refine so_cong (fun t ht => ?_)
  rw [msee, so_bt _ (by omega) t (by omega), decide_eq_true ht]
  rfl
theorem so_any {p : Nat → Bool} {n : Nat} (hn : n ≤ 32) : (so p n = 0) = (anyb p n = false) := by
  apply propext
  constructor
  · intro e
    cases c : anyb p n with
    | false => rfl
    | true => exact absurd e (so_nz hn c)
  · intro e
    exact (so_zero hn).mpr (fun i hi => by
      cases c : p i with
      | false => rfl
      | true => rw [anyb_iff.mpr ⟨i, hi, c⟩] at e; cases e)
theorem m_asks_0 (hR : tRef h d R) (hW : mW I nr nt pl) (hY : mY I nr nt y) {a : Nat} (h1 : anyb (mfit I pl nt y 0) nt = false) : tEv E 186 0 [.ref 56, .int (nI a)] [] (mS I J R) Q = Q (some 3) (mS (va_up (va_up I 56 (upd (I 56) 36 (nI a))) 82 (upd (I 82) 0 0)) J R) := by
  have h16 := hW.2.2.2.1
  have hW' : mW (va_up I 56 (upd (I 56) 36 (nI a))) nr nt pl := mW_cong hW rfl rfl (fun _ _ => rfl)
  have hY' : mY (va_up I 56 (upd (I 56) 36 (nI a))) nr nt y := hY
  have h3 : tm_inb 0 2 = true := by decide
  have h4 : (0 : Int32).toNatClampNeg = 0 := by decide
  have hz : so (mfit I pl nt y 0) nt = 0 := by rw [so_any (by omega), h1]
  have hs := fun {Q} => m_seen (E := E) (Q := Q) (J := J) hR hW' hY'
  have ht := fun {Q s} => m_told (E := E) (Q := Q) (J := J) (s := s) hR hW' (k := 0) (by decide)
  have e0 : so (fun t => mtold (va_up I 56 (upd (I 56) 36 (nI a))) 0 t && bt (msee (va_up I 56 (upd (I 56) 36 (nI a))) pl nt y) t) nt = 0 := (so_msee (y := y) (k := 0) hW).trans hz
  rw [show nI 0 = 0 from rfl] at ht
  simp only [e_186_0, e_186_1, e_186_2, e_186_5, e_186_6, e_186_9, e_186_10, e_186_11, e_186_12, e_186_13, e_186_16, e_186_19, e_186_20, e_186_21, e_186_24, e_186_25, e_186_26, e_186_29, e_186_30, rf_56_0 hR, rf_56_4 hR, rf_56_5 hR, rf_56_6 hR, rf_56_7 hR, rf_56_8 hR, rf_56_9 hR, rf_56_10 hR, rf_56_11 hR, rf_56_12 hR, rf_56_14 hR, rf_56_15 hR, rf_56_19 hR, rf_56_20 hR, rf_56_21 hR, rf_56_22 hR, rf_56_23 hR, rf_56_24 hR, rf_56_25 hR, rf_56_26 hR, rf_56_27 hR, rf_56_29 hR, rf_56_32 hR, rf_56_33 hR, rf_56_34 hR, rf_56_37 hR, rf_56_38 hR, kn_56, kn_57, kn_58, kn_59, kn_60, kn_61, kn_62, kn_63, kn_64, kn_65, kn_66, kn_67, kn_68, kn_69, kn_70, kn_71, kn_72, kn_73, kn_74, kn_75, kn_76, kn_77, kn_78, kn_79, kn_80, kn_81, kn_82, kn_83, ln_57, ln_58, ln_59, ln_60, ln_61, ln_62, ln_63, ln_64, ln_65, ln_66, ln_67, ln_68, ln_69, ln_70, ln_71, ln_72, ln_73, ln_74, ln_75, ln_76, ln_77, ln_78, ln_79, ln_80, ln_81, ln_82, ln_83, va_rf_some, push_s, push_n, nb0, nb1, nbb, Nat.reduceLT, hs, ht, e0, h3, h4, vu, ud, Nat.reduceEqDiff, reduceIte]
theorem m_asks_1 (hR : tRef h d R) (hW : mW I nr nt pl) (hY : mY I nr nt y) {a : Nat} (ha : a < 12) (h1 : anyb (mfit I pl nt y 0) nt = true) (h2 : of2 a = true) (h5 : anyb (mfit I pl nt y 1) nt = false) : tEv E 186 0 [.ref 56, .int (nI a)] [] (mS I J R) Q = Q (some 3) (mS (mask I a (so (mfit I pl nt y 0) nt) 0) J R) := by
  have h16 := hW.2.2.2.1
  have hW' : mW (va_up I 56 (upd (I 56) 36 (nI a))) nr nt pl := mW_cong hW rfl rfl (fun _ _ => rfl)
  have hY' : mY (va_up I 56 (upd (I 56) 36 (nI a))) nr nt y := hY
  have hW2 : ∀ F, mW (va_up (va_up I 56 (upd (I 56) 36 (nI a))) 82 F) nr nt pl := fun F => mW_cong hW rfl rfl (fun _ _ => rfl)
  have hY2 : ∀ F, mY (va_up (va_up I 56 (upd (I 56) 36 (nI a))) 82 F) nr nt y := fun F => hY
  have h3 : tm_inb 0 2 = true := by decide
  have h4 : (0 : Int32).toNatClampNeg = 0 := by decide
  have g3 : tm_inb 1 2 = true := by decide
  have g4 : (1 : Int32).toNatClampNeg = 1 := by decide
  have hz : so (mfit I pl nt y 1) nt = 0 := by rw [so_any (by omega), h5]
  have hnz : (so (mfit I pl nt y 0) nt = 0) = False := eq_false (so_nz (by omega) h1)
  have hs := fun {Q} => m_seen (E := E) (Q := Q) (J := J) hR hW' hY'
  have ht := fun {Q s} => m_told (E := E) (Q := Q) (J := J) (s := s) hR hW' (k := 0) (by decide)
  have hs2 := fun {Q F} => m_seen (E := E) (Q := Q) (J := J) hR (hW2 F) (hY2 F)
  have ht2 := fun {Q s F} => m_told (E := E) (Q := Q) (J := J) (s := s) hR (hW2 F) (k := 1) (by decide)
  have e0 : so (fun t => mtold (va_up I 56 (upd (I 56) 36 (nI a))) 0 t && bt (msee (va_up I 56 (upd (I 56) 36 (nI a))) pl nt y) t) nt = so (mfit I pl nt y 0) nt := (so_msee (y := y) (k := 0) hW)
  have e1 : ∀ F, so (fun t => mtold (va_up (va_up I 56 (upd (I 56) 36 (nI a))) 82 F) 1 t && bt (msee (va_up (va_up I 56 (upd (I 56) 36 (nI a))) 82 F) pl nt y) t) nt = 0 := fun F => (so_msee (y := y) (k := 1) hW).trans hz
  rw [show nI 0 = 0 from rfl] at ht
  rw [show nI 1 = 1 from rfl] at ht2
  simp only [e_186_0, e_186_1, e_186_2, e_186_5, e_186_6, e_186_9, e_186_10, e_186_11, e_186_12, e_186_13, e_186_16, e_186_19, e_186_20, e_186_21, e_186_24, e_186_25, e_186_26, e_186_29, e_186_30, e_186_31, e_186_32, e_186_35, e_186_36, e_186_37, e_186_40, e_186_43, e_186_44, e_186_45, e_186_46, e_186_49, e_186_52, e_186_55, e_186_56, e_186_57, e_186_58, e_186_61, e_186_64, e_186_65, e_186_68, e_186_69, e_186_70, e_186_73, e_186_74, e_186_81, rf_56_0 hR, rf_56_4 hR, rf_56_5 hR, rf_56_6 hR, rf_56_7 hR, rf_56_8 hR, rf_56_9 hR, rf_56_10 hR, rf_56_11 hR, rf_56_12 hR, rf_56_14 hR, rf_56_15 hR, rf_56_19 hR, rf_56_20 hR, rf_56_21 hR, rf_56_22 hR, rf_56_23 hR, rf_56_24 hR, rf_56_25 hR, rf_56_26 hR, rf_56_27 hR, rf_56_29 hR, rf_56_32 hR, rf_56_33 hR, rf_56_34 hR, rf_56_37 hR, rf_56_38 hR, kn_56, kn_57, kn_58, kn_59, kn_60, kn_61, kn_62, kn_63, kn_64, kn_65, kn_66, kn_67, kn_68, kn_69, kn_70, kn_71, kn_72, kn_73, kn_74, kn_75, kn_76, kn_77, kn_78, kn_79, kn_80, kn_81, kn_82, kn_83, ln_57, ln_58, ln_59, ln_60, ln_61, ln_62, ln_63, ln_64, ln_65, ln_66, ln_67, ln_68, ln_69, ln_70, ln_71, ln_72, ln_73, ln_74, ln_75, ln_76, ln_77, ln_78, ln_79, ln_80, ln_81, ln_82, ln_83, va_rf_some, push_s, push_n, nb0, nb1, nbb, Nat.reduceLT, hs, ht, e0, hs2, ht2, e1, hnz, if_false, m_isOfTwo (show a < 100 by omega), h2, b2i_0, Bool.true_eq_false, h3, h4, g3, g4, vu, ud, vu_vu, Nat.reduceEqDiff, reduceIte]
  rfl
end M8
