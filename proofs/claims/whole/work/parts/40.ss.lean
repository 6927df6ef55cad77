/-! ===== the model: the sentence ===== -/
def goC (c : Nat) (wn : Nat → Nat) (k a : Nat) : Nat := if 39 ≤ wo c wn k ∧ wo c wn k ≤ 42 ∧ a = c then 16 + (wo c wn k - 39) else 99
def anC (c : Nat) (wn : Nat → Nat) (db : Nat) : Nat := if 0 < db ∧ s3 c wn 0 = c ∧ (sNd c wn 0 = true ∨ sAd c wn 0 = true) then 20 else 99
/-- what sentence it is -/
def senC (c : Nat) (wn : Nat → Nat) (db : Nat) : Nat :=
  if wo c wn 0 = 20 then tkC c wn else if wo c wn 0 = 21 then dpC c wn else if wo c wn 0 = 22 then ptC c wn
  else if wo c wn 0 = 23 then o1C c wn 1 4 else if wo c wn 0 = 24 then o1C c wn 1 5
  else if wo c wn 0 = 25 then t2C c wn 6 else if wo c wn 0 = 26 then t2C c wn 7
  else if wo c wn 0 = 27 then o1C c wn 1 8 else if wo c wn 0 = 28 then o1C c wn 1 9
  else if wo c wn 0 = 29 then goC c wn 1 2
  else if wo c wn 0 = 30 then lkC c wn else if wo c wn 0 = 31 then (if c = 1 then 15 else 99)
  else if 39 ≤ wo c wn 0 ∧ wo c wn 0 ≤ 42 then goC c wn 0 1
  else anC c wn db
/-- where its first phrase begins -/
def senA (c : Nat) (wn : Nat → Nat) : Nat := if wo c wn 0 = 30 then 2 else 1
section SS
variable {E : tm_Env} {Q : Option Int32 → tm_St → Prop} {I : Nat → Nat → Int32} {J : Nat → Nat → Int64} {R : Nat → Nat → Option Nat} {h d : Nat} {n a c : Nat} {tc wn : Nat → Nat}
theorem m_goes (hR : tRef h d R) (hS : WS I c wn) (ha' : a < 900) {k : Nat} : tEv E 151 0 [.ref 56, .int (wv c wn k)] [] (mS (ha I a) J R) Q = Q (some (cdV (goC c wn k a))) (mS (ha I a) J R) := by
  have i1 := wv_in (k := k) (lo := 39) (hi := 42) hS (by decide) (by decide)
  rw [show nI 39 = 39 from rfl, show nI 42 = 42 from rfl] at i1
  have he := fun {Q} => m_isEnd (E := E) (Q := Q) (J := J) (I := I) (a := a) hR hS (by omega)
  simp only [e_151_0, e_151_1, e_151_2, e_151_5, e_151_8, e_151_11, rf_56_0 hR, rf_56_4 hR, rf_56_5 hR, rf_56_6 hR, rf_56_7 hR, rf_56_8 hR, rf_56_9 hR, rf_56_10 hR, rf_56_11 hR, rf_56_12 hR, rf_56_14 hR, rf_56_15 hR, rf_56_19 hR, rf_56_20 hR, rf_56_21 hR, rf_56_22 hR, rf_56_23 hR, rf_56_24 hR, rf_56_25 hR, rf_56_26 hR, rf_56_27 hR, rf_56_29 hR, rf_56_32 hR, rf_56_33 hR, rf_56_34 hR, rf_56_37 hR, rf_56_38 hR, kn_56, kn_57, kn_58, kn_59, kn_60, kn_61, kn_62, kn_63, kn_64, kn_65, kn_66, kn_67, kn_68, kn_69, kn_70, kn_71, kn_72, kn_73, kn_74, kn_75, kn_76, kn_77, kn_78, kn_79, kn_80, kn_81, kn_82, kn_83, ln_57, ln_58, ln_59, ln_60, ln_61, ln_62, ln_63, ln_64, ln_65, ln_66, ln_67, ln_68, ln_69, ln_70, ln_71, ln_72, ln_73, ln_74, ln_75, ln_76, ln_77, ln_78, ln_79, ln_80, ln_81, ln_82, ln_83, va_rf_some, push_s, push_n, nb0, nb1, nbb, Nat.reduceLT, m_in_39_42, i1, b2i_0]
  unfold goC
  by_cases q : 39 ≤ wo c wn k ∧ wo c wn k ≤ 42
  · have e5 := wv_lt (show wo c wn k < 43 by omega)
    have e6 : (16 : Int32) + nI (wo c wn k) - 39 = nI (16 + (wo c wn k - 39)) := by
      rw [show (16 : Int32) + nI (wo c wn k) = nI (16 + wo c wn k) from nI_add 16 _, show nI (16 + wo c wn k) - 39 = nI (16 + wo c wn k - 39) from pk_sub (b := 39) (by omega)]
      congr 1
      omega
    rw [decide_eq_true q, if_neg (by decide)]
    simp only [e_151_14, e_151_15, e_151_18, e_151_21, e_151_23, e_151_24, e_151_25, e_151_27, e_151_28, e_151_31, e_151_33, rf_56_0 hR, rf_56_4 hR, rf_56_5 hR, rf_56_6 hR, rf_56_7 hR, rf_56_8 hR, rf_56_9 hR, rf_56_10 hR, rf_56_11 hR, rf_56_12 hR, rf_56_14 hR, rf_56_15 hR, rf_56_19 hR, rf_56_20 hR, rf_56_21 hR, rf_56_22 hR, rf_56_23 hR, rf_56_24 hR, rf_56_25 hR, rf_56_26 hR, rf_56_27 hR, rf_56_29 hR, rf_56_32 hR, rf_56_33 hR, rf_56_34 hR, rf_56_37 hR, rf_56_38 hR, kn_56, kn_57, kn_58, kn_59, kn_60, kn_61, kn_62, kn_63, kn_64, kn_65, kn_66, kn_67, kn_68, kn_69, kn_70, kn_71, kn_72, kn_73, kn_74, kn_75, kn_76, kn_77, kn_78, kn_79, kn_80, kn_81, kn_82, kn_83, ln_57, ln_58, ln_59, ln_60, ln_61, ln_62, ln_63, ln_64, ln_65, ln_66, ln_67, ln_68, ln_69, ln_70, ln_71, ln_72, ln_73, ln_74, ln_75, ln_76, ln_77, ln_78, ln_79, ln_80, ln_81, ln_82, ln_83, va_rf_some, push_s, push_n, nb0, nb1, nbb, Nat.reduceLT, he, b2i_0, e5, e6]
    by_cases q2 : a = c
    · rw [decide_eq_true q2, if_neg (by decide), if_pos ⟨q.1, q.2, q2⟩, cdV, if_neg (by omega)]
    · rw [decide_eq_false q2, if_pos rfl, if_neg (fun e => q2 e.2.2)]
      rfl
  · rw [decide_eq_false q, if_pos rfl, if_neg (fun e => q ⟨e.1, e.2.1⟩)]
    simp only [e_151_31, e_151_33, rf_56_0 hR, rf_56_4 hR, rf_56_5 hR, rf_56_6 hR, rf_56_7 hR, rf_56_8 hR, rf_56_9 hR, rf_56_10 hR, rf_56_11 hR, rf_56_12 hR, rf_56_14 hR, rf_56_15 hR, rf_56_19 hR, rf_56_20 hR, rf_56_21 hR, rf_56_22 hR, rf_56_23 hR, rf_56_24 hR, rf_56_25 hR, rf_56_26 hR, rf_56_27 hR, rf_56_29 hR, rf_56_32 hR, rf_56_33 hR, rf_56_34 hR, rf_56_37 hR, rf_56_38 hR, kn_56, kn_57, kn_58, kn_59, kn_60, kn_61, kn_62, kn_63, kn_64, kn_65, kn_66, kn_67, kn_68, kn_69, kn_70, kn_71, kn_72, kn_73, kn_74, kn_75, kn_76, kn_77, kn_78, kn_79, kn_80, kn_81, kn_82, kn_83, ln_57, ln_58, ln_59, ln_60, ln_61, ln_62, ln_63, ln_64, ln_65, ln_66, ln_67, ln_68, ln_69, ln_70, ln_71, ln_72, ln_73, ln_74, ln_75, ln_76, ln_77, ln_78, ln_79, ln_80, ln_81, ln_82, ln_83, va_rf_some, push_s, push_n, nb0, nb1, nbb, Nat.reduceLT]
    rfl
theorem m_answers (hR : tRef h d R) (hS : WS I c wn) {db : Nat} (hdb : I 56 35 = nI db) (hd3 : db < 3) : tEv E 152 0 [.ref 56] [] (mS (ha I a) J R) Q = Q (some (cdV (anC c wn db))) (mS (ha (smS I 0 (sAv c wn 0) (sNv c wn 0)) (s3 c wn 0)) J R) := by
  have hle := s_le c wn 0
  have hs := fun {Q} => m_readsSome (E := E) (Q := Q) (J := J) (I := I) (a := 0) hR hS (by decide) (k := 0) (by decide)
  rw [show nI 0 = 0 from rfl] at hs
  have hset : va_up (ha I a) 56 (upd (ha I a 56) 31 0) = ha I 0 := ha_set (q := 0)
  have he := fun {Q} => m_isEnd (E := E) (Q := Q) (J := J) (I := smS I 0 (sAv c wn 0) (sNv c wn 0)) (a := s3 c wn 0) hR hS (by omega)
  have e35 : smS I 0 (sAv c wn 0) (sNv c wn 0) 56 35 = nI db := hdb
  have e80 : ha (smS I 0 (sAv c wn 0) (sNv c wn 0)) (s3 c wn 0) 80 0 = sAv c wn 0 := by
    unfold ha smS
    simp only [vu, Nat.reduceEqDiff, reduceIte, ud]
  have e81 : ha (smS I 0 (sAv c wn 0) (sNv c wn 0)) (s3 c wn 0) 81 0 = sNv c wn 0 := by
    unfold ha smS
    simp only [vu, Nat.reduceEqDiff, reduceIte, ud]
  have i0 : tm_inb 0 2 = true := by decide
  have c0 : (0 : Int32).toNatClampNeg = 0 := by decide
  have h0 : ((0 : Int32) < nI db) = (0 < db) := propext (nI_ltI (a := 0) (by omega) (by omega))
  have eN : (sNv c wn 0 = -4) = (sNd c wn 0 = false) := by
    apply propext
    unfold sNv
    cases q : sNd c wn 0 with
    | false => simp
    | true =>
      have hlt : wo c wn (s2 c wn 0) ≤ 11 := of_decide_eq_true q
      rw [if_pos rfl]
      exact ⟨fun e => absurd e (nI_n4 (by omega)), fun e => by cases e⟩
  have eA : (sAv c wn 0 = -4) = (sAd c wn 0 = false) := by
    apply propext
    unfold sAv
    cases q : sAd c wn 0 with
    | false => simp
    | true =>
      have hlt := of_decide_eq_true q
      rw [if_pos rfl]
      exact ⟨fun e => absurd e (nI_n4 (by omega)), fun e => by cases e⟩
  have hk35 : ha (smS I 0 (sAv c wn 0) (sNv c wn 0)) (s3 c wn 0) 56 35 = nI db := hdb
  simp only [e_152_0, e_152_1, e_152_2, e_152_5, e_152_6, e_152_7, e_152_10, e_152_11, e_152_14, e_152_17, e_152_18, e_152_21, e_152_24, e_152_25, e_152_28, e_152_29, e_152_30, e_152_32, e_152_35, e_152_36, e_152_39, e_152_40, e_152_41, e_152_43, e_152_46, e_152_48, e_152_51, e_152_53, rf_56_0 hR, rf_56_4 hR, rf_56_5 hR, rf_56_6 hR, rf_56_7 hR, rf_56_8 hR, rf_56_9 hR, rf_56_10 hR, rf_56_11 hR, rf_56_12 hR, rf_56_14 hR, rf_56_15 hR, rf_56_19 hR, rf_56_20 hR, rf_56_21 hR, rf_56_22 hR, rf_56_23 hR, rf_56_24 hR, rf_56_25 hR, rf_56_26 hR, rf_56_27 hR, rf_56_29 hR, rf_56_32 hR, rf_56_33 hR, rf_56_34 hR, rf_56_37 hR, rf_56_38 hR, kn_56, kn_57, kn_58, kn_59, kn_60, kn_61, kn_62, kn_63, kn_64, kn_65, kn_66, kn_67, kn_68, kn_69, kn_70, kn_71, kn_72, kn_73, kn_74, kn_75, kn_76, kn_77, kn_78, kn_79, kn_80, kn_81, kn_82, kn_83, ln_57, ln_58, ln_59, ln_60, ln_61, ln_62, ln_63, ln_64, ln_65, ln_66, ln_67, ln_68, ln_69, ln_70, ln_71, ln_72, ln_73, ln_74, ln_75, ln_76, ln_77, ln_78, ln_79, ln_80, ln_81, ln_82, ln_83, va_rf_some, push_s, push_n, nb0, nb1, nbb, Nat.reduceLT, hset, hs, hk35, h0, he, b2i_0, i0, c0, e80, e81, eN, eA]
  unfold anC
  by_cases q1 : 0 < db
  · by_cases q2 : s3 c wn 0 = c
    · cases q3 : sNd c wn 0 <;> cases q4 : sAd c wn 0 <;> simp [q1, q2, cdV] <;> rfl
    · simp [q1, q2, cdV]
  · simp [q1, cdV]
end SS
