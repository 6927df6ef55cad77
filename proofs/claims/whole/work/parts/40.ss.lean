/-! ===== the model: the sentence ===== -/
def goC (c : Nat) (wn : Nat → Nat) (k a : Nat) : Nat := if 39 ≤ wo c wn k ∧ wo c wn k ≤ 42 ∧ a = c then 16 + (wo c wn k - 39) else 99
def anC (c : Nat) (wn : Nat → Nat) (db : Nat) : Nat := if 0 < db ∧ s3 c wn 0 = c ∧ (sNd c wn 0 = true ∨ sAd c wn 0 = true) then 20 else 99
/-- what sentence it is -/
def senC (c : Nat) (wn : Nat → Nat) (db : Nat) : Nat :=
  if wo c wn 0 = 20 then tkC c wn else if wo c wn 0 = 21 then dpC c wn else if wo c wn 0 = 22 then ptC c wn
  else if wo c wn 0 = 23 then o1C c wn 1 4 else if wo c wn 0 = 24 then o1C c wn 1 5
  else if wo c wn 0 = 25 then t2C c wn 6 else if wo c wn 0 = 26 then t2C c wn 7
  else if wo c wn 0 = 27 then o1C c wn 1 8 else if wo c wn 0 = 28 then o1C c wn 1 9
  else if wo c wn 0 = 29 then goC c wn 1 2
  else if wo c wn 0 = 30 then lkC c wn else if wo c wn 0 = 31 then (if c = 1 then 15 else 99)
  else if 39 ≤ wo c wn 0 ∧ wo c wn 0 ≤ 42 then goC c wn 0 1
  else anC c wn db
/-- where its first phrase begins -/
def senA (c : Nat) (wn : Nat → Nat) : Nat := if wo c wn 0 = 30 then 2 else 1
section SS
variable {E : tm_Env} {Q : Option Int32 → tm_St → Prop} {I : Nat → Nat → Int32} {J : Nat → Nat → Int64} {R : Nat → Nat → Option Nat} {h d : Nat} {n a c : Nat} {tc wn : Nat → Nat}
theorem m_goes (hR : tRef h d R) (hS : WS I c wn) (ha' : a < 900) {k : Nat} : tEv E 151 0 [.ref 56, .int (wv c wn k)] [] (mS (ha I a) J R) Q = Q (some (cdV (goC c wn k a))) (mS (ha I a) J R) := by
  have i1 := wv_in (k := k) (lo := 39) (hi := 42) hS (by decide) (by decide)
  rw [show nI 39 = 39 from rfl, show nI 42 = 42 from rfl] at i1
  have he := fun {Q} => m_isEnd (E := E) (Q := Q) (J := J) (I := I) (a := a) hR hS (by omega)
  simp only [e_151_0, e_151_1, e_151_2, e_151_5, e_151_8, e_151_11, rf_56_0 hR, rf_56_4 hR, rf_56_5 hR, rf_56_6 hR, rf_56_7 hR, rf_56_8 hR, rf_56_9 hR, rf_56_10 hR, rf_56_11 hR, rf_56_12 hR, rf_56_14 hR, rf_56_15 hR, rf_56_19 hR, rf_56_20 hR, rf_56_21 hR, rf_56_22 hR, rf_56_23 hR, rf_56_24 hR, rf_56_25 hR, rf_56_26 hR, rf_56_27 hR, rf_56_29 hR, rf_56_32 hR, rf_56_33 hR, rf_56_34 hR, rf_56_37 hR, rf_56_38 hR, kn_56, kn_57, kn_58, kn_59, kn_60, kn_61, kn_62, kn_63, kn_64, kn_65, kn_66, kn_67, kn_68, kn_69, kn_70, kn_71, kn_72, kn_73, kn_74, kn_75, kn_76, kn_77, kn_78, kn_79, kn_80, kn_81, kn_82, kn_83, ln_57, ln_58, ln_59, ln_60, ln_61, ln_62, ln_63, ln_64, ln_65, ln_66, ln_67, ln_68, ln_69, ln_70, ln_71, ln_72, ln_73, ln_74, ln_75, ln_76, ln_77, ln_78, ln_79, ln_80, ln_81, ln_82, ln_83, va_rf_some, push_s, push_n, nb0, nb1, nbb, Nat.reduceLT, m_in_39_42, i1, b2i_0]
  unfold goC
  by_cases q : 39 ≤ wo c wn k ∧ wo c wn k ≤ 42
  · have e5 := wv_lt (show wo c wn k < 43 by omega)
    have e6 : (16 : Int32) + nI (wo c wn k) - 39 = nI (16 + (wo c wn k - 39)) := by
      rw [show (16 : Int32) + nI (wo c wn k) = nI (16 + wo c wn k) from nI_add 16 _, show nI (16 + wo c wn k) - 39 = nI (16 + wo c wn k - 39) from pk_sub (b := 39) (by omega)]
      congr 1
      omega
    rw [decide_eq_true q, if_neg (by decide)]
    simp only [e_151_14, e_151_15, e_151_18, e_151_21, e_151_23, e_151_24, e_151_25, e_151_27, e_151_28, e_151_31, e_151_33, rf_56_0 hR, rf_56_4 hR, rf_56_5 hR, rf_56_6 hR, rf_56_7 hR, rf_56_8 hR, rf_56_9 hR, rf_56_10 hR, rf_56_11 hR, rf_56_12 hR, rf_56_14 hR, rf_56_15 hR, rf_56_19 hR, rf_56_20 hR, rf_56_21 hR, rf_56_22 hR, rf_56_23 hR, rf_56_24 hR, rf_56_25 hR, rf_56_26 hR, rf_56_27 hR, rf_56_29 hR, rf_56_32 hR, rf_56_33 hR, rf_56_34 hR, rf_56_37 hR, rf_56_38 hR, kn_56, kn_57, kn_58, kn_59, kn_60, kn_61, kn_62, kn_63, kn_64, kn_65, kn_66, kn_67, kn_68, kn_69, kn_70, kn_71, kn_72, kn_73, kn_74, kn_75, kn_76, kn_77, kn_78, kn_79, kn_80, kn_81, kn_82, kn_83, ln_57, ln_58, ln_59, ln_60, ln_61, ln_62, ln_63, ln_64, ln_65, ln_66, ln_67, ln_68, ln_69, ln_70, ln_71, ln_72, ln_73, ln_74, ln_75, ln_76, ln_77, ln_78, ln_79, ln_80, ln_81, ln_82, ln_83, va_rf_some, push_s, push_n, nb0, nb1, nbb, Nat.reduceLT, he, b2i_0, e5, e6]
    by_cases q2 : a = c
    · rw [decide_eq_true q2, if_neg (by decide), if_pos ⟨q.1, q.2, q2⟩, cdV, if_neg (by omega)]
    · rw [decide_eq_false q2, if_pos rfl, if_neg (fun e => q2 e.2.2)]
      rfl
  · rw [decide_eq_false q, if_pos rfl, if_neg (fun e => q ⟨e.1, e.2.1⟩)]
    simp only [e_151_31, e_151_33, rf_56_0 hR, rf_56_4 hR, rf_56_5 hR, rf_56_6 hR, rf_56_7 hR, rf_56_8 hR, rf_56_9 hR, rf_56_10 hR, rf_56_11 hR, rf_56_12 hR, rf_56_14 hR, rf_56_15 hR, rf_56_19 hR, rf_56_20 hR, rf_56_21 hR, rf_56_22 hR, rf_56_23 hR, rf_56_24 hR, rf_56_25 hR, rf_56_26 hR, rf_56_27 hR, rf_56_29 hR, rf_56_32 hR, rf_56_33 hR, rf_56_34 hR, rf_56_37 hR, rf_56_38 hR, kn_56, kn_57, kn_58, kn_59, kn_60, kn_61, kn_62, kn_63, kn_64, kn_65, kn_66, kn_67, kn_68, kn_69, kn_70, kn_71, kn_72, kn_73, kn_74, kn_75, kn_76, kn_77, kn_78, kn_79, kn_80, kn_81, kn_82, kn_83, ln_57, ln_58, ln_59, ln_60, ln_61, ln_62, ln_63, ln_64, ln_65, ln_66, ln_67, ln_68, ln_69, ln_70, ln_71, ln_72, ln_73, ln_74, ln_75, ln_76, ln_77, ln_78, ln_79, ln_80, ln_81, ln_82, ln_83, va_rf_some, push_s, push_n, nb0, nb1, nbb, Nat.reduceLT]
    rfl
theorem m_answers (hR : tRef h d R) (hS : WS I c wn) {db : Nat} (hdb : I 56 35 = nI db) (hd3 : db < 3) : tEv E 152 0 [.ref 56] [] (mS (ha I a) J R) Q = Q (some (cdV (anC c wn db))) (mS (ha (smS I 0 (sAv c wn 0) (sNv c wn 0)) (s3 c wn 0)) J R) := by
  have hle := s_le c wn 0
  have hs := fun {Q} => m_readsSome (E := E) (Q := Q) (J := J) (I := I) (a := 0) hR hS (by decide) (k := 0) (by decide)
  rw [show nI 0 = 0 from rfl] at hs
  have hset : va_up (ha I a) 56 (upd (ha I a 56) 31 0) = ha I 0 := ha_set (q := 0)
  have he := fun {Q} => m_isEnd (E := E) (Q := Q) (J := J) (I := smS I 0 (sAv c wn 0) (sNv c wn 0)) (a := s3 c wn 0) hR hS (by omega)
  have e35 : smS I 0 (sAv c wn 0) (sNv c wn 0) 56 35 = nI db := hdb
  have e80 : ha (smS I 0 (sAv c wn 0) (sNv c wn 0)) (s3 c wn 0) 80 0 = sAv c wn 0 := by
    unfold ha smS
    simp only [vu, Nat.reduceEqDiff, reduceIte, ud]
  have e81 : ha (smS I 0 (sAv c wn 0) (sNv c wn 0)) (s3 c wn 0) 81 0 = sNv c wn 0 := by
    unfold ha smS
    simp only [vu, Nat.reduceEqDiff, reduceIte, ud]
  have i0 : tm_inb 0 2 = true := by decide
  have c0 : (0 : Int32).toNatClampNeg = 0 := by decide
  have h0 : ((0 : Int32) < nI db) = (0 < db) := propext (nI_ltI (a := 0) (by omega) (by omega))
  have eN : (sNv c wn 0 = -4) = (sNd c wn 0 = false) := by
    apply propext
    unfold sNv
    cases q : sNd c wn 0 with
    | false => simp
    | true =>
      have hlt : wo c wn (s2 c wn 0) ≤ 11 := of_decide_eq_true q
      rw [if_pos rfl]
      exact ⟨fun e => absurd e (nI_n4 (by omega)), fun e => by cases e⟩
  have eA : (sAv c wn 0 = -4) = (sAd c wn 0 = false) := by
    apply propext
    unfold sAv
    cases q : sAd c wn 0 with
    | false => simp
    | true =>
      have hlt := of_decide_eq_true q
      rw [if_pos rfl]
      exact ⟨fun e => absurd e (nI_n4 (by omega)), fun e => by cases e⟩
  have hk35 : ha (smS I 0 (sAv c wn 0) (sNv c wn 0)) (s3 c wn 0) 56 35 = nI db := hdb
  simp only [e_152_0, e_152_1, e_152_2, e_152_5, e_152_6, e_152_7, e_152_10, e_152_11, e_152_14, e_152_17, e_152_18, e_152_21, e_152_24, e_152_25, e_152_28, e_152_29, e_152_30, e_152_32, e_152_35, e_152_36, e_152_39, e_152_40, e_152_41, e_152_43, e_152_46, e_152_48, e_152_51, e_152_53, rf_56_0 hR, rf_56_4 hR, rf_56_5 hR, rf_56_6 hR, rf_56_7 hR, rf_56_8 hR, rf_56_9 hR, rf_56_10 hR, rf_56_11 hR, rf_56_12 hR, rf_56_14 hR, rf_56_15 hR, rf_56_19 hR, rf_56_20 hR, rf_56_21 hR, rf_56_22 hR, rf_56_23 hR, rf_56_24 hR, rf_56_25 hR, rf_56_26 hR, rf_56_27 hR, rf_56_29 hR, rf_56_32 hR, rf_56_33 hR, rf_56_34 hR, rf_56_37 hR, rf_56_38 hR, kn_56, kn_57, kn_58, kn_59, kn_60, kn_61, kn_62, kn_63, kn_64, kn_65, kn_66, kn_67, kn_68, kn_69, kn_70, kn_71, kn_72, kn_73, kn_74, kn_75, kn_76, kn_77, kn_78, kn_79, kn_80, kn_81, kn_82, kn_83, ln_57, ln_58, ln_59, ln_60, ln_61, ln_62, ln_63, ln_64, ln_65, ln_66, ln_67, ln_68, ln_69, ln_70, ln_71, ln_72, ln_73, ln_74, ln_75, ln_76, ln_77, ln_78, ln_79, ln_80, ln_81, ln_82, ln_83, va_rf_some, push_s, push_n, nb0, nb1, nbb, Nat.reduceLT, hset, hs, hk35, h0, he, b2i_0, i0, c0, e80, e81, eN, eA]
  unfold anC
  by_cases q1 : 0 < db
  · by_cases q2 : s3 c wn 0 = c
    · cases q3 : sNd c wn 0 <;> cases q4 : sAd c wn 0 <;> simp [q1, q2, cdV] <;> rfl
    · simp [q1, q2, cdV]
  · simp [q1, cdV]
theorem tk_ne (c : Nat) (wn : Nat → Nat) : tkC c wn ≠ 20 := by
  unfold tkC
  repeat' split
  all_goals decide
theorem o1_ne (c : Nat) (wn : Nat → Nat) (a : Nat) {k : Nat} (h : k ≠ 20) : o1C c wn a k ≠ 20 := by
  unfold o1C
  split
  · exact h
  · decide
theorem dp_ne (c : Nat) (wn : Nat → Nat) : dpC c wn ≠ 20 := by
  unfold dpC
  split
  · split <;> decide
  · exact o1_ne c wn 1 (by decide)
theorem pt_ne (c : Nat) (wn : Nat → Nat) : ptC c wn ≠ 20 := by
  unfold ptC
  repeat' split
  all_goals decide
theorem t2_ne (c : Nat) (wn : Nat → Nat) {k : Nat} (h : k ≠ 20) : t2C c wn k ≠ 20 := by
  unfold t2C
  split
  · exact h
  · decide
theorem lk_ne (c : Nat) (wn : Nat → Nat) : lkC c wn ≠ 20 := by
  unfold lkC
  split
  · decide
  · split
    · exact o1_ne c wn 2 (by decide)
    · decide
theorem go_ne (c : Nat) (wn : Nat → Nat) (k a : Nat) : goC c wn k a ≠ 20 ∧ 12 ≤ goC c wn k a := by
  unfold goC
  split
  · omega
  · decide
/-- the sentence and its phrases -/
def SEN (I' : Nat → Nat → Int32) (c : Nat) (wn : Nat → Nat) (code : Nat) : Prop := PHs I' c wn (senA c wn) code ∧ (code = 20 → I' 79 0 = 0 ∧ I' 80 0 = sAv c wn 0 ∧ I' 81 0 = sNv c wn 0)
theorem m_sentence (hR : tRef h d R) (hS : WS I c wn) {db : Nat} (hdb : I 56 35 = nI db) (hd3 : db < 3) : ∃ I', frS I I' ∧ SEN I' c wn (senC c wn db) ∧ ∀ Q, tEv E 153 0 [.ref 56] [] (mS I J R) Q = Q (some (cdV (senC c wn db))) (mS I' J R) := by
  have hc := hS.2.1
  have h1 : va_up I 56 (upd (I 56) 31 1) = ha I 1 := rfl
  have hw := fun {Q} => m_wordAt (E := E) (Q := Q) (J := J) (I := ha I 1) (k := 0) hR hS (by decide)
  rw [show nI 0 = 0 from rfl] at hw
  have mk : ∀ (code a : Nat) (kk : Nat) (ls : List Value), senA c wn = a → senC c wn db = code → code ≠ 20 → SRs E J R kk ls (ha I 1) I c wn a code → (∀ v I', (∀ Q, tEv E kk 0 ls [] (mS (ha I 1) J R) Q = Q (some v) (mS I' J R)) → ∀ Q, tEv E 153 10 [.ref 56] [.int (wv c wn 0)] (mS (ha I 1) J R) Q = Q (some v) (mS I' J R)) → ∃ I', frS I I' ∧ SEN I' c wn (senC c wn db) ∧ ∀ Q, tEv E 153 0 [.ref 56] [] (mS I J R) Q = Q (some (cdV (senC c wn db))) (mS I' J R) := by
    intro code a kk ls ea ec en hs hq
    obtain ⟨I', f, p, q⟩ := hs
    refine ⟨I', f, ⟨by rw [ea, ec]; exact p, fun e => absurd (ec ▸ e) en⟩, fun Q => ?_⟩
    simp only [e_153_0, e_153_1, e_153_2, e_153_5, e_153_6, e_153_7, rf_56_0 hR, rf_56_4 hR, rf_56_5 hR, rf_56_6 hR, rf_56_7 hR, rf_56_8 hR, rf_56_9 hR, rf_56_10 hR, rf_56_11 hR, rf_56_12 hR, rf_56_14 hR, rf_56_15 hR, rf_56_19 hR, rf_56_20 hR, rf_56_21 hR, rf_56_22 hR, rf_56_23 hR, rf_56_24 hR, rf_56_25 hR, rf_56_26 hR, rf_56_27 hR, rf_56_29 hR, rf_56_32 hR, rf_56_33 hR, rf_56_34 hR, rf_56_37 hR, rf_56_38 hR, kn_56, kn_57, kn_58, kn_59, kn_60, kn_61, kn_62, kn_63, kn_64, kn_65, kn_66, kn_67, kn_68, kn_69, kn_70, kn_71, kn_72, kn_73, kn_74, kn_75, kn_76, kn_77, kn_78, kn_79, kn_80, kn_81, kn_82, kn_83, ln_57, ln_58, ln_59, ln_60, ln_61, ln_62, ln_63, ln_64, ln_65, ln_66, ln_67, ln_68, ln_69, ln_70, ln_71, ln_72, ln_73, ln_74, ln_75, ln_76, ln_77, ln_78, ln_79, ln_80, ln_81, ln_82, ln_83, va_rf_some, push_s, push_n, nb0, nb1, nbb, Nat.reduceLT, h1, hw]
    rw [hq _ I' q, ec]
  have mk2 : ∀ (code : Nat) (I' : Nat → Nat → Int32), senC c wn db = code → code ≠ 20 → 12 ≤ code → frS I I' → (∀ Q, tEv E 153 10 [.ref 56] [.int (wv c wn 0)] (mS (ha I 1) J R) Q = Q (some (cdV code)) (mS I' J R)) → ∃ I', frS I I' ∧ SEN I' c wn (senC c wn db) ∧ ∀ Q, tEv E 153 0 [.ref 56] [] (mS I J R) Q = Q (some (cdV (senC c wn db))) (mS I' J R) := by
    intro code I' ec en e12 f hq
    refine ⟨I', f, ⟨by rw [ec]; exact PHs_99 e12, fun e => absurd (ec ▸ e) en⟩, fun Q => ?_⟩
    simp only [e_153_0, e_153_1, e_153_2, e_153_5, e_153_6, e_153_7, rf_56_0 hR, rf_56_4 hR, rf_56_5 hR, rf_56_6 hR, rf_56_7 hR, rf_56_8 hR, rf_56_9 hR, rf_56_10 hR, rf_56_11 hR, rf_56_12 hR, rf_56_14 hR, rf_56_15 hR, rf_56_19 hR, rf_56_20 hR, rf_56_21 hR, rf_56_22 hR, rf_56_23 hR, rf_56_24 hR, rf_56_25 hR, rf_56_26 hR, rf_56_27 hR, rf_56_29 hR, rf_56_32 hR, rf_56_33 hR, rf_56_34 hR, rf_56_37 hR, rf_56_38 hR, kn_56, kn_57, kn_58, kn_59, kn_60, kn_61, kn_62, kn_63, kn_64, kn_65, kn_66, kn_67, kn_68, kn_69, kn_70, kn_71, kn_72, kn_73, kn_74, kn_75, kn_76, kn_77, kn_78, kn_79, kn_80, kn_81, kn_82, kn_83, ln_57, ln_58, ln_59, ln_60, ln_61, ln_62, ln_63, ln_64, ln_65, ln_66, ln_67, ln_68, ln_69, ln_70, ln_71, ln_72, ln_73, ln_74, ln_75, ln_76, ln_77, ln_78, ln_79, ln_80, ln_81, ln_82, ln_83, va_rf_some, push_s, push_n, nb0, nb1, nbb, Nat.reduceLT, h1, hw]
    rw [hq, ec]
  by_cases q20 : wo c wn 0 = 20
  · have ev := (wv_lt (show wo c wn 0 < 43 by omega)).trans (by rw [q20])
    refine mk (tkC c wn) 1 145 [.ref 56] (by unfold senA; rw [q20]; rfl) (by unfold senC; rw [if_pos q20]) (tk_ne c wn) (s_takes hR hS) (fun v I' hv Q => ?_)
    rw [ev]
    simp only [e_153_10_20, e_153_116, e_153_117, e_153_120, rf_56_0 hR, rf_56_4 hR, rf_56_5 hR, rf_56_6 hR, rf_56_7 hR, rf_56_8 hR, rf_56_9 hR, rf_56_10 hR, rf_56_11 hR, rf_56_12 hR, rf_56_14 hR, rf_56_15 hR, rf_56_19 hR, rf_56_20 hR, rf_56_21 hR, rf_56_22 hR, rf_56_23 hR, rf_56_24 hR, rf_56_25 hR, rf_56_26 hR, rf_56_27 hR, rf_56_29 hR, rf_56_32 hR, rf_56_33 hR, rf_56_34 hR, rf_56_37 hR, rf_56_38 hR, kn_56, kn_57, kn_58, kn_59, kn_60, kn_61, kn_62, kn_63, kn_64, kn_65, kn_66, kn_67, kn_68, kn_69, kn_70, kn_71, kn_72, kn_73, kn_74, kn_75, kn_76, kn_77, kn_78, kn_79, kn_80, kn_81, kn_82, kn_83, ln_57, ln_58, ln_59, ln_60, ln_61, ln_62, ln_63, ln_64, ln_65, ln_66, ln_67, ln_68, ln_69, ln_70, ln_71, ln_72, ln_73, ln_74, ln_75, ln_76, ln_77, ln_78, ln_79, ln_80, ln_81, ln_82, ln_83, va_rf_some, push_s, push_n, nb0, nb1, nbb, Nat.reduceLT, hv]
  by_cases q21 : wo c wn 0 = 21
  · have ev := (wv_lt (show wo c wn 0 < 43 by omega)).trans (by rw [q21])
    refine mk (dpC c wn) 1 147 [.ref 56] (by unfold senA; rw [q21]; rfl) (by unfold senC; rw [if_neg q20, if_pos q21]) (dp_ne c wn) (s_drops hR hS) (fun v I' hv Q => ?_)
    rw [ev]
    simp only [e_153_10_21, e_153_121, e_153_122, e_153_125, rf_56_0 hR, rf_56_4 hR, rf_56_5 hR, rf_56_6 hR, rf_56_7 hR, rf_56_8 hR, rf_56_9 hR, rf_56_10 hR, rf_56_11 hR, rf_56_12 hR, rf_56_14 hR, rf_56_15 hR, rf_56_19 hR, rf_56_20 hR, rf_56_21 hR, rf_56_22 hR, rf_56_23 hR, rf_56_24 hR, rf_56_25 hR, rf_56_26 hR, rf_56_27 hR, rf_56_29 hR, rf_56_32 hR, rf_56_33 hR, rf_56_34 hR, rf_56_37 hR, rf_56_38 hR, kn_56, kn_57, kn_58, kn_59, kn_60, kn_61, kn_62, kn_63, kn_64, kn_65, kn_66, kn_67, kn_68, kn_69, kn_70, kn_71, kn_72, kn_73, kn_74, kn_75, kn_76, kn_77, kn_78, kn_79, kn_80, kn_81, kn_82, kn_83, ln_57, ln_58, ln_59, ln_60, ln_61, ln_62, ln_63, ln_64, ln_65, ln_66, ln_67, ln_68, ln_69, ln_70, ln_71, ln_72, ln_73, ln_74, ln_75, ln_76, ln_77, ln_78, ln_79, ln_80, ln_81, ln_82, ln_83, va_rf_some, push_s, push_n, nb0, nb1, nbb, Nat.reduceLT, hv]
  by_cases q22 : wo c wn 0 = 22
  · have ev := (wv_lt (show wo c wn 0 < 43 by omega)).trans (by rw [q22])
    refine mk (ptC c wn) 1 148 [.ref 56, tm_dum] (by unfold senA; rw [q22]; rfl) (by unfold senC; rw [if_neg q20, if_neg q21, if_pos q22]) (pt_ne c wn) (s_puts hR hS) (fun v I' hv Q => ?_)
    rw [ev]
    simp only [e_153_10_22, e_153_126, e_153_127, e_153_130, rf_56_0 hR, rf_56_4 hR, rf_56_5 hR, rf_56_6 hR, rf_56_7 hR, rf_56_8 hR, rf_56_9 hR, rf_56_10 hR, rf_56_11 hR, rf_56_12 hR, rf_56_14 hR, rf_56_15 hR, rf_56_19 hR, rf_56_20 hR, rf_56_21 hR, rf_56_22 hR, rf_56_23 hR, rf_56_24 hR, rf_56_25 hR, rf_56_26 hR, rf_56_27 hR, rf_56_29 hR, rf_56_32 hR, rf_56_33 hR, rf_56_34 hR, rf_56_37 hR, rf_56_38 hR, kn_56, kn_57, kn_58, kn_59, kn_60, kn_61, kn_62, kn_63, kn_64, kn_65, kn_66, kn_67, kn_68, kn_69, kn_70, kn_71, kn_72, kn_73, kn_74, kn_75, kn_76, kn_77, kn_78, kn_79, kn_80, kn_81, kn_82, kn_83, ln_57, ln_58, ln_59, ln_60, ln_61, ln_62, ln_63, ln_64, ln_65, ln_66, ln_67, ln_68, ln_69, ln_70, ln_71, ln_72, ln_73, ln_74, ln_75, ln_76, ln_77, ln_78, ln_79, ln_80, ln_81, ln_82, ln_83, va_rf_some, push_s, push_n, nb0, nb1, nbb, Nat.reduceLT, hv]
  by_cases q23 : wo c wn 0 = 23
  · have ev := (wv_lt (show wo c wn 0 < 43 by omega)).trans (by rw [q23])
    refine mk (o1C c wn 1 4) 1 146 [.ref 56, .int (nI 4)] (by unfold senA; rw [q23]; rfl) (by unfold senC; rw [if_neg q20, if_neg q21, if_neg q22, if_pos q23]) (o1_ne c wn 1 (by decide)) (s_one hR hS (by decide) (by decide) rfl) (fun v I' hv Q => ?_)
    rw [show nI 4 = 4 from rfl] at hv
    rw [ev]
    simp only [e_153_10_23, e_153_131, e_153_132, e_153_133, e_153_136, rf_56_0 hR, rf_56_4 hR, rf_56_5 hR, rf_56_6 hR, rf_56_7 hR, rf_56_8 hR, rf_56_9 hR, rf_56_10 hR, rf_56_11 hR, rf_56_12 hR, rf_56_14 hR, rf_56_15 hR, rf_56_19 hR, rf_56_20 hR, rf_56_21 hR, rf_56_22 hR, rf_56_23 hR, rf_56_24 hR, rf_56_25 hR, rf_56_26 hR, rf_56_27 hR, rf_56_29 hR, rf_56_32 hR, rf_56_33 hR, rf_56_34 hR, rf_56_37 hR, rf_56_38 hR, kn_56, kn_57, kn_58, kn_59, kn_60, kn_61, kn_62, kn_63, kn_64, kn_65, kn_66, kn_67, kn_68, kn_69, kn_70, kn_71, kn_72, kn_73, kn_74, kn_75, kn_76, kn_77, kn_78, kn_79, kn_80, kn_81, kn_82, kn_83, ln_57, ln_58, ln_59, ln_60, ln_61, ln_62, ln_63, ln_64, ln_65, ln_66, ln_67, ln_68, ln_69, ln_70, ln_71, ln_72, ln_73, ln_74, ln_75, ln_76, ln_77, ln_78, ln_79, ln_80, ln_81, ln_82, ln_83, va_rf_some, push_s, push_n, nb0, nb1, nbb, Nat.reduceLT, hv]
  by_cases q24 : wo c wn 0 = 24
  · have ev := (wv_lt (show wo c wn 0 < 43 by omega)).trans (by rw [q24])
    refine mk (o1C c wn 1 5) 1 146 [.ref 56, .int (nI 5)] (by unfold senA; rw [q24]; rfl) (by unfold senC; rw [if_neg q20, if_neg q21, if_neg q22, if_neg q23, if_pos q24]) (o1_ne c wn 1 (by decide)) (s_one hR hS (by decide) (by decide) rfl) (fun v I' hv Q => ?_)
    rw [show nI 5 = 5 from rfl] at hv
    rw [ev]
    simp only [e_153_10_24, e_153_137, e_153_138, e_153_139, e_153_142, rf_56_0 hR, rf_56_4 hR, rf_56_5 hR, rf_56_6 hR, rf_56_7 hR, rf_56_8 hR, rf_56_9 hR, rf_56_10 hR, rf_56_11 hR, rf_56_12 hR, rf_56_14 hR, rf_56_15 hR, rf_56_19 hR, rf_56_20 hR, rf_56_21 hR, rf_56_22 hR, rf_56_23 hR, rf_56_24 hR, rf_56_25 hR, rf_56_26 hR, rf_56_27 hR, rf_56_29 hR, rf_56_32 hR, rf_56_33 hR, rf_56_34 hR, rf_56_37 hR, rf_56_38 hR, kn_56, kn_57, kn_58, kn_59, kn_60, kn_61, kn_62, kn_63, kn_64, kn_65, kn_66, kn_67, kn_68, kn_69, kn_70, kn_71, kn_72, kn_73, kn_74, kn_75, kn_76, kn_77, kn_78, kn_79, kn_80, kn_81, kn_82, kn_83, ln_57, ln_58, ln_59, ln_60, ln_61, ln_62, ln_63, ln_64, ln_65, ln_66, ln_67, ln_68, ln_69, ln_70, ln_71, ln_72, ln_73, ln_74, ln_75, ln_76, ln_77, ln_78, ln_79, ln_80, ln_81, ln_82, ln_83, va_rf_some, push_s, push_n, nb0, nb1, nbb, Nat.reduceLT, hv]
  by_cases q25 : wo c wn 0 = 25
  · have ev := (wv_lt (show wo c wn 0 < 43 by omega)).trans (by rw [q25])
    refine mk (t2C c wn 6) 1 149 [.ref 56, .int (nI 6), .int 35] (by unfold senA; rw [q25]; rfl) (by unfold senC; rw [if_neg q20, if_neg q21, if_neg q22, if_neg q23, if_neg q24, if_pos q25]) (t2_ne c wn (by decide)) (s_two hR hS (by decide)) (fun v I' hv Q => ?_)
    rw [show nI 6 = 6 from rfl] at hv
    rw [ev]
    simp only [e_153_10_25, e_153_143, e_153_144, e_153_146, e_153_148, e_153_151, rf_56_0 hR, rf_56_4 hR, rf_56_5 hR, rf_56_6 hR, rf_56_7 hR, rf_56_8 hR, rf_56_9 hR, rf_56_10 hR, rf_56_11 hR, rf_56_12 hR, rf_56_14 hR, rf_56_15 hR, rf_56_19 hR, rf_56_20 hR, rf_56_21 hR, rf_56_22 hR, rf_56_23 hR, rf_56_24 hR, rf_56_25 hR, rf_56_26 hR, rf_56_27 hR, rf_56_29 hR, rf_56_32 hR, rf_56_33 hR, rf_56_34 hR, rf_56_37 hR, rf_56_38 hR, kn_56, kn_57, kn_58, kn_59, kn_60, kn_61, kn_62, kn_63, kn_64, kn_65, kn_66, kn_67, kn_68, kn_69, kn_70, kn_71, kn_72, kn_73, kn_74, kn_75, kn_76, kn_77, kn_78, kn_79, kn_80, kn_81, kn_82, kn_83, ln_57, ln_58, ln_59, ln_60, ln_61, ln_62, ln_63, ln_64, ln_65, ln_66, ln_67, ln_68, ln_69, ln_70, ln_71, ln_72, ln_73, ln_74, ln_75, ln_76, ln_77, ln_78, ln_79, ln_80, ln_81, ln_82, ln_83, va_rf_some, push_s, push_n, nb0, nb1, nbb, Nat.reduceLT, hv]
  by_cases q26 : wo c wn 0 = 26
  · have ev := (wv_lt (show wo c wn 0 < 43 by omega)).trans (by rw [q26])
    refine mk (t2C c wn 7) 1 149 [.ref 56, .int (nI 7), .int 35] (by unfold senA; rw [q26]; rfl) (by unfold senC; rw [if_neg q20, if_neg q21, if_neg q22, if_neg q23, if_neg q24, if_neg q25, if_pos q26]) (t2_ne c wn (by decide)) (s_two hR hS (by decide)) (fun v I' hv Q => ?_)
    rw [show nI 7 = 7 from rfl] at hv
    rw [ev]
    simp only [e_153_10_26, e_153_152, e_153_153, e_153_155, e_153_157, e_153_160, rf_56_0 hR, rf_56_4 hR, rf_56_5 hR, rf_56_6 hR, rf_56_7 hR, rf_56_8 hR, rf_56_9 hR, rf_56_10 hR, rf_56_11 hR, rf_56_12 hR, rf_56_14 hR, rf_56_15 hR, rf_56_19 hR, rf_56_20 hR, rf_56_21 hR, rf_56_22 hR, rf_56_23 hR, rf_56_24 hR, rf_56_25 hR, rf_56_26 hR, rf_56_27 hR, rf_56_29 hR, rf_56_32 hR, rf_56_33 hR, rf_56_34 hR, rf_56_37 hR, rf_56_38 hR, kn_56, kn_57, kn_58, kn_59, kn_60, kn_61, kn_62, kn_63, kn_64, kn_65, kn_66, kn_67, kn_68, kn_69, kn_70, kn_71, kn_72, kn_73, kn_74, kn_75, kn_76, kn_77, kn_78, kn_79, kn_80, kn_81, kn_82, kn_83, ln_57, ln_58, ln_59, ln_60, ln_61, ln_62, ln_63, ln_64, ln_65, ln_66, ln_67, ln_68, ln_69, ln_70, ln_71, ln_72, ln_73, ln_74, ln_75, ln_76, ln_77, ln_78, ln_79, ln_80, ln_81, ln_82, ln_83, va_rf_some, push_s, push_n, nb0, nb1, nbb, Nat.reduceLT, hv]
  by_cases q27 : wo c wn 0 = 27
  · have ev := (wv_lt (show wo c wn 0 < 43 by omega)).trans (by rw [q27])
    refine mk (o1C c wn 1 8) 1 146 [.ref 56, .int (nI 8)] (by unfold senA; rw [q27]; rfl) (by unfold senC; rw [if_neg q20, if_neg q21, if_neg q22, if_neg q23, if_neg q24, if_neg q25, if_neg q26, if_pos q27]) (o1_ne c wn 1 (by decide)) (s_one hR hS (by decide) (by decide) rfl) (fun v I' hv Q => ?_)
    rw [show nI 8 = 8 from rfl] at hv
    rw [ev]
    simp only [e_153_10_27, e_153_161, e_153_162, e_153_164, e_153_167, rf_56_0 hR, rf_56_4 hR, rf_56_5 hR, rf_56_6 hR, rf_56_7 hR, rf_56_8 hR, rf_56_9 hR, rf_56_10 hR, rf_56_11 hR, rf_56_12 hR, rf_56_14 hR, rf_56_15 hR, rf_56_19 hR, rf_56_20 hR, rf_56_21 hR, rf_56_22 hR, rf_56_23 hR, rf_56_24 hR, rf_56_25 hR, rf_56_26 hR, rf_56_27 hR, rf_56_29 hR, rf_56_32 hR, rf_56_33 hR, rf_56_34 hR, rf_56_37 hR, rf_56_38 hR, kn_56, kn_57, kn_58, kn_59, kn_60, kn_61, kn_62, kn_63, kn_64, kn_65, kn_66, kn_67, kn_68, kn_69, kn_70, kn_71, kn_72, kn_73, kn_74, kn_75, kn_76, kn_77, kn_78, kn_79, kn_80, kn_81, kn_82, kn_83, ln_57, ln_58, ln_59, ln_60, ln_61, ln_62, ln_63, ln_64, ln_65, ln_66, ln_67, ln_68, ln_69, ln_70, ln_71, ln_72, ln_73, ln_74, ln_75, ln_76, ln_77, ln_78, ln_79, ln_80, ln_81, ln_82, ln_83, va_rf_some, push_s, push_n, nb0, nb1, nbb, Nat.reduceLT, hv]
  by_cases q28 : wo c wn 0 = 28
  · have ev := (wv_lt (show wo c wn 0 < 43 by omega)).trans (by rw [q28])
    refine mk (o1C c wn 1 9) 1 146 [.ref 56, .int (nI 9)] (by unfold senA; rw [q28]; rfl) (by unfold senC; rw [if_neg q20, if_neg q21, if_neg q22, if_neg q23, if_neg q24, if_neg q25, if_neg q26, if_neg q27, if_pos q28]) (o1_ne c wn 1 (by decide)) (s_one hR hS (by decide) (by decide) rfl) (fun v I' hv Q => ?_)
    rw [show nI 9 = 9 from rfl] at hv
    rw [ev]
    simp only [e_153_10_28, e_153_168, e_153_169, e_153_171, e_153_174, rf_56_0 hR, rf_56_4 hR, rf_56_5 hR, rf_56_6 hR, rf_56_7 hR, rf_56_8 hR, rf_56_9 hR, rf_56_10 hR, rf_56_11 hR, rf_56_12 hR, rf_56_14 hR, rf_56_15 hR, rf_56_19 hR, rf_56_20 hR, rf_56_21 hR, rf_56_22 hR, rf_56_23 hR, rf_56_24 hR, rf_56_25 hR, rf_56_26 hR, rf_56_27 hR, rf_56_29 hR, rf_56_32 hR, rf_56_33 hR, rf_56_34 hR, rf_56_37 hR, rf_56_38 hR, kn_56, kn_57, kn_58, kn_59, kn_60, kn_61, kn_62, kn_63, kn_64, kn_65, kn_66, kn_67, kn_68, kn_69, kn_70, kn_71, kn_72, kn_73, kn_74, kn_75, kn_76, kn_77, kn_78, kn_79, kn_80, kn_81, kn_82, kn_83, ln_57, ln_58, ln_59, ln_60, ln_61, ln_62, ln_63, ln_64, ln_65, ln_66, ln_67, ln_68, ln_69, ln_70, ln_71, ln_72, ln_73, ln_74, ln_75, ln_76, ln_77, ln_78, ln_79, ln_80, ln_81, ln_82, ln_83, va_rf_some, push_s, push_n, nb0, nb1, nbb, Nat.reduceLT, hv]
  by_cases q29 : wo c wn 0 = 29
  · have ev := (wv_lt (show wo c wn 0 < 43 by omega)).trans (by rw [q29])
    have h2 : va_up (ha I 1) 56 (upd (ha I 1 56) 31 2) = ha I 2 := ha_set (q := 2)
    have hw1 := fun {Q} => m_wordAt (E := E) (Q := Q) (J := J) (I := ha I 2) (k := 1) hR hS (by decide)
    rw [show nI 1 = 1 from rfl] at hw1
    have hg := fun {Q} => m_goes (E := E) (Q := Q) (J := J) (I := I) (a := 2) (k := 1) hR hS (by decide)
    refine mk2 (goC c wn 1 2) (ha I 2) (by unfold senC; rw [if_neg q20, if_neg q21, if_neg q22, if_neg q23, if_neg q24, if_neg q25, if_neg q26, if_neg q27, if_neg q28, if_pos q29]) (go_ne c wn 1 2).1 (go_ne c wn 1 2).2 (frS_ha (frS_refl I)) (fun Q => ?_)
    rw [ev]
    simp only [e_153_10_29, e_153_195, e_153_196, e_153_197, e_153_200, e_153_201, e_153_202, e_153_203, e_153_206, e_153_209, rf_56_0 hR, rf_56_4 hR, rf_56_5 hR, rf_56_6 hR, rf_56_7 hR, rf_56_8 hR, rf_56_9 hR, rf_56_10 hR, rf_56_11 hR, rf_56_12 hR, rf_56_14 hR, rf_56_15 hR, rf_56_19 hR, rf_56_20 hR, rf_56_21 hR, rf_56_22 hR, rf_56_23 hR, rf_56_24 hR, rf_56_25 hR, rf_56_26 hR, rf_56_27 hR, rf_56_29 hR, rf_56_32 hR, rf_56_33 hR, rf_56_34 hR, rf_56_37 hR, rf_56_38 hR, kn_56, kn_57, kn_58, kn_59, kn_60, kn_61, kn_62, kn_63, kn_64, kn_65, kn_66, kn_67, kn_68, kn_69, kn_70, kn_71, kn_72, kn_73, kn_74, kn_75, kn_76, kn_77, kn_78, kn_79, kn_80, kn_81, kn_82, kn_83, ln_57, ln_58, ln_59, ln_60, ln_61, ln_62, ln_63, ln_64, ln_65, ln_66, ln_67, ln_68, ln_69, ln_70, ln_71, ln_72, ln_73, ln_74, ln_75, ln_76, ln_77, ln_78, ln_79, ln_80, ln_81, ln_82, ln_83, va_rf_some, push_s, push_n, nb0, nb1, nbb, Nat.reduceLT, h2, hw1, hg]
  by_cases q30 : wo c wn 0 = 30
  · have ev := (wv_lt (show wo c wn 0 < 43 by omega)).trans (by rw [q30])
    refine mk (lkC c wn) 2 150 [.ref 56] (by unfold senA; rw [q30]; rfl) (by unfold senC; rw [if_neg q20, if_neg q21, if_neg q22, if_neg q23, if_neg q24, if_neg q25, if_neg q26, if_neg q27, if_neg q28, if_neg q29, if_pos q30]) (lk_ne c wn) (s_looks hR hS) (fun v I' hv Q => ?_)
    rw [ev]
    simp only [e_153_10_30, e_153_175, e_153_176, e_153_179, rf_56_0 hR, rf_56_4 hR, rf_56_5 hR, rf_56_6 hR, rf_56_7 hR, rf_56_8 hR, rf_56_9 hR, rf_56_10 hR, rf_56_11 hR, rf_56_12 hR, rf_56_14 hR, rf_56_15 hR, rf_56_19 hR, rf_56_20 hR, rf_56_21 hR, rf_56_22 hR, rf_56_23 hR, rf_56_24 hR, rf_56_25 hR, rf_56_26 hR, rf_56_27 hR, rf_56_29 hR, rf_56_32 hR, rf_56_33 hR, rf_56_34 hR, rf_56_37 hR, rf_56_38 hR, kn_56, kn_57, kn_58, kn_59, kn_60, kn_61, kn_62, kn_63, kn_64, kn_65, kn_66, kn_67, kn_68, kn_69, kn_70, kn_71, kn_72, kn_73, kn_74, kn_75, kn_76, kn_77, kn_78, kn_79, kn_80, kn_81, kn_82, kn_83, ln_57, ln_58, ln_59, ln_60, ln_61, ln_62, ln_63, ln_64, ln_65, ln_66, ln_67, ln_68, ln_69, ln_70, ln_71, ln_72, ln_73, ln_74, ln_75, ln_76, ln_77, ln_78, ln_79, ln_80, ln_81, ln_82, ln_83, va_rf_some, push_s, push_n, nb0, nb1, nbb, Nat.reduceLT, hv]
  by_cases q31 : wo c wn 0 = 31
  · have ev := (wv_lt (show wo c wn 0 < 43 by omega)).trans (by rw [q31])
    have he := fun {Q} => m_isEnd (E := E) (Q := Q) (J := J) (I := I) (a := 1) hR hS (by decide)
    refine mk2 (if c = 1 then 15 else 99) (ha I 1) (by unfold senC; rw [if_neg q20, if_neg q21, if_neg q22, if_neg q23, if_neg q24, if_neg q25, if_neg q26, if_neg q27, if_neg q28, if_neg q29, if_neg q30, if_pos q31]) (by split <;> decide) (by split <;> decide) (frS_ha (frS_refl I)) (fun Q => ?_)
    rw [ev]
    simp only [e_153_10_31, e_153_180, e_153_181, e_153_184, e_153_187, e_153_189, e_153_192, e_153_194, rf_56_0 hR, rf_56_4 hR, rf_56_5 hR, rf_56_6 hR, rf_56_7 hR, rf_56_8 hR, rf_56_9 hR, rf_56_10 hR, rf_56_11 hR, rf_56_12 hR, rf_56_14 hR, rf_56_15 hR, rf_56_19 hR, rf_56_20 hR, rf_56_21 hR, rf_56_22 hR, rf_56_23 hR, rf_56_24 hR, rf_56_25 hR, rf_56_26 hR, rf_56_27 hR, rf_56_29 hR, rf_56_32 hR, rf_56_33 hR, rf_56_34 hR, rf_56_37 hR, rf_56_38 hR, kn_56, kn_57, kn_58, kn_59, kn_60, kn_61, kn_62, kn_63, kn_64, kn_65, kn_66, kn_67, kn_68, kn_69, kn_70, kn_71, kn_72, kn_73, kn_74, kn_75, kn_76, kn_77, kn_78, kn_79, kn_80, kn_81, kn_82, kn_83, ln_57, ln_58, ln_59, ln_60, ln_61, ln_62, ln_63, ln_64, ln_65, ln_66, ln_67, ln_68, ln_69, ln_70, ln_71, ln_72, ln_73, ln_74, ln_75, ln_76, ln_77, ln_78, ln_79, ln_80, ln_81, ln_82, ln_83, va_rf_some, push_s, push_n, nb0, nb1, nbb, Nat.reduceLT, he, b2i_0]
    by_cases q : c = 1
    · rw [decide_eq_true q.symm, if_neg (by decide), if_pos q]
      rfl
    · rw [decide_eq_false (fun e => q e.symm), if_pos rfl, if_neg q]
      rfl
  by_cases q39 : 39 ≤ wo c wn 0 ∧ wo c wn 0 ≤ 42
  · have ev := wv_lt (show wo c wn 0 < 43 by omega)
    have hg := fun {Q} => m_goes (E := E) (Q := Q) (J := J) (I := I) (a := 1) (k := 0) hR hS (by decide)
    refine mk2 (goC c wn 0 1) (ha I 1) (by unfold senC; rw [if_neg q20, if_neg q21, if_neg q22, if_neg q23, if_neg q24, if_neg q25, if_neg q26, if_neg q27, if_neg q28, if_neg q29, if_neg q30, if_neg q31, if_pos q39]) (go_ne c wn 0 1).1 (go_ne c wn 0 1).2 (frS_ha (frS_refl I)) (fun Q => ?_)
    rw [ev]
    rcases (by omega : wo c wn 0 = 39 ∨ wo c wn 0 = 40 ∨ wo c wn 0 = 41 ∨ wo c wn 0 = 42) with e | e | e | e
    · rw [e]
      simp only [e_153_10_39, e_153_210, e_153_211, e_153_212, e_153_213, e_153_216, e_153_219, rf_56_0 hR, rf_56_4 hR, rf_56_5 hR, rf_56_6 hR, rf_56_7 hR, rf_56_8 hR, rf_56_9 hR, rf_56_10 hR, rf_56_11 hR, rf_56_12 hR, rf_56_14 hR, rf_56_15 hR, rf_56_19 hR, rf_56_20 hR, rf_56_21 hR, rf_56_22 hR, rf_56_23 hR, rf_56_24 hR, rf_56_25 hR, rf_56_26 hR, rf_56_27 hR, rf_56_29 hR, rf_56_32 hR, rf_56_33 hR, rf_56_34 hR, rf_56_37 hR, rf_56_38 hR, kn_56, kn_57, kn_58, kn_59, kn_60, kn_61, kn_62, kn_63, kn_64, kn_65, kn_66, kn_67, kn_68, kn_69, kn_70, kn_71, kn_72, kn_73, kn_74, kn_75, kn_76, kn_77, kn_78, kn_79, kn_80, kn_81, kn_82, kn_83, ln_57, ln_58, ln_59, ln_60, ln_61, ln_62, ln_63, ln_64, ln_65, ln_66, ln_67, ln_68, ln_69, ln_70, ln_71, ln_72, ln_73, ln_74, ln_75, ln_76, ln_77, ln_78, ln_79, ln_80, ln_81, ln_82, ln_83, va_rf_some, push_s, push_n, nb0, nb1, nbb, Nat.reduceLT, hw, hg]
    · rw [e]
      simp only [e_153_10_40, e_153_210, e_153_211, e_153_212, e_153_213, e_153_216, e_153_219, rf_56_0 hR, rf_56_4 hR, rf_56_5 hR, rf_56_6 hR, rf_56_7 hR, rf_56_8 hR, rf_56_9 hR, rf_56_10 hR, rf_56_11 hR, rf_56_12 hR, rf_56_14 hR, rf_56_15 hR, rf_56_19 hR, rf_56_20 hR, rf_56_21 hR, rf_56_22 hR, rf_56_23 hR, rf_56_24 hR, rf_56_25 hR, rf_56_26 hR, rf_56_27 hR, rf_56_29 hR, rf_56_32 hR, rf_56_33 hR, rf_56_34 hR, rf_56_37 hR, rf_56_38 hR, kn_56, kn_57, kn_58, kn_59, kn_60, kn_61, kn_62, kn_63, kn_64, kn_65, kn_66, kn_67, kn_68, kn_69, kn_70, kn_71, kn_72, kn_73, kn_74, kn_75, kn_76, kn_77, kn_78, kn_79, kn_80, kn_81, kn_82, kn_83, ln_57, ln_58, ln_59, ln_60, ln_61, ln_62, ln_63, ln_64, ln_65, ln_66, ln_67, ln_68, ln_69, ln_70, ln_71, ln_72, ln_73, ln_74, ln_75, ln_76, ln_77, ln_78, ln_79, ln_80, ln_81, ln_82, ln_83, va_rf_some, push_s, push_n, nb0, nb1, nbb, Nat.reduceLT, hw, hg]
    · rw [e]
      simp only [e_153_10_41, e_153_210, e_153_211, e_153_212, e_153_213, e_153_216, e_153_219, rf_56_0 hR, rf_56_4 hR, rf_56_5 hR, rf_56_6 hR, rf_56_7 hR, rf_56_8 hR, rf_56_9 hR, rf_56_10 hR, rf_56_11 hR, rf_56_12 hR, rf_56_14 hR, rf_56_15 hR, rf_56_19 hR, rf_56_20 hR, rf_56_21 hR, rf_56_22 hR, rf_56_23 hR, rf_56_24 hR, rf_56_25 hR, rf_56_26 hR, rf_56_27 hR, rf_56_29 hR, rf_56_32 hR, rf_56_33 hR, rf_56_34 hR, rf_56_37 hR, rf_56_38 hR, kn_56, kn_57, kn_58, kn_59, kn_60, kn_61, kn_62, kn_63, kn_64, kn_65, kn_66, kn_67, kn_68, kn_69, kn_70, kn_71, kn_72, kn_73, kn_74, kn_75, kn_76, kn_77, kn_78, kn_79, kn_80, kn_81, kn_82, kn_83, ln_57, ln_58, ln_59, ln_60, ln_61, ln_62, ln_63, ln_64, ln_65, ln_66, ln_67, ln_68, ln_69, ln_70, ln_71, ln_72, ln_73, ln_74, ln_75, ln_76, ln_77, ln_78, ln_79, ln_80, ln_81, ln_82, ln_83, va_rf_some, push_s, push_n, nb0, nb1, nbb, Nat.reduceLT, hw, hg]
    · rw [e]
      simp only [e_153_10_42, e_153_210, e_153_211, e_153_212, e_153_213, e_153_216, e_153_219, rf_56_0 hR, rf_56_4 hR, rf_56_5 hR, rf_56_6 hR, rf_56_7 hR, rf_56_8 hR, rf_56_9 hR, rf_56_10 hR, rf_56_11 hR, rf_56_12 hR, rf_56_14 hR, rf_56_15 hR, rf_56_19 hR, rf_56_20 hR, rf_56_21 hR, rf_56_22 hR, rf_56_23 hR, rf_56_24 hR, rf_56_25 hR, rf_56_26 hR, rf_56_27 hR, rf_56_29 hR, rf_56_32 hR, rf_56_33 hR, rf_56_34 hR, rf_56_37 hR, rf_56_38 hR, kn_56, kn_57, kn_58, kn_59, kn_60, kn_61, kn_62, kn_63, kn_64, kn_65, kn_66, kn_67, kn_68, kn_69, kn_70, kn_71, kn_72, kn_73, kn_74, kn_75, kn_76, kn_77, kn_78, kn_79, kn_80, kn_81, kn_82, kn_83, ln_57, ln_58, ln_59, ln_60, ln_61, ln_62, ln_63, ln_64, ln_65, ln_66, ln_67, ln_68, ln_69, ln_70, ln_71, ln_72, ln_73, ln_74, ln_75, ln_76, ln_77, ln_78, ln_79, ln_80, ln_81, ln_82, ln_83, va_rf_some, push_s, push_n, nb0, nb1, nbb, Nat.reduceLT, hw, hg]
  have hs : senC c wn db = anC c wn db := by unfold senC; rw [if_neg q20, if_neg q21, if_neg q22, if_neg q23, if_neg q24, if_neg q25, if_neg q26, if_neg q27, if_neg q28, if_neg q29, if_neg q30, if_neg q31, if_neg q39]
  have hans := fun {Q} => m_answers (E := E) (Q := Q) (J := J) (I := I) (a := 1) hR hS hdb hd3
  refine ⟨_, frS_ha (p := s3 c wn 0) (frS_sm (k := 0) (x := sAv c wn 0) (y := sNv c wn 0) (frS_refl I)), ⟨?_, fun _ => ?_⟩, fun Q => ?_⟩
  · rw [hs]
    refine PHs_99 ?_
    unfold anC
    split <;> decide
  · unfold ha smS
    simp only [vu, Nat.reduceEqDiff, reduceIte, ud, and_self]
  · have hgo : tEv E 153 10 [.ref 56] [.int (wv c wn 0)] (mS (ha I 1) J R) Q = tEv E 153 220 [.ref 56] [] (mS (ha I 1) J R) Q := by
      by_cases hlt : wo c wn 0 < 43
      · rw [wv_lt hlt]
        rcases (by omega : wo c wn 0 < 20 ∨ wo c wn 0 = 32 ∨ wo c wn 0 = 33 ∨ wo c wn 0 = 34 ∨ wo c wn 0 = 35 ∨ wo c wn 0 = 36 ∨ wo c wn 0 = 37 ∨ wo c wn 0 = 38) with e | e | e | e | e | e | e | e
        · exact e_153_10_d (by rw [nI_toInt (by omega)]; omega)
        · rw [e]; exact e_153_10_32
        · rw [e]; exact e_153_10_33
        · rw [e]; exact e_153_10_34
        · rw [e]; exact e_153_10_35
        · rw [e]; exact e_153_10_36
        · rw [e]; exact e_153_10_37
        · rw [e]; exact e_153_10_38
      · have e4 : wv c wn 0 = -4 := by
          unfold wo at hlt
          unfold wv
          by_cases q : 0 < c
          · rw [if_pos q] at hlt
            exact absurd (hS.2.2 0 q).2 hlt
          · rw [if_neg q]
        rw [e4]
        exact e_153_10_d (by decide)
    simp only [e_153_0, e_153_1, e_153_2, e_153_5, e_153_6, e_153_7, rf_56_0 hR, rf_56_4 hR, rf_56_5 hR, rf_56_6 hR, rf_56_7 hR, rf_56_8 hR, rf_56_9 hR, rf_56_10 hR, rf_56_11 hR, rf_56_12 hR, rf_56_14 hR, rf_56_15 hR, rf_56_19 hR, rf_56_20 hR, rf_56_21 hR, rf_56_22 hR, rf_56_23 hR, rf_56_24 hR, rf_56_25 hR, rf_56_26 hR, rf_56_27 hR, rf_56_29 hR, rf_56_32 hR, rf_56_33 hR, rf_56_34 hR, rf_56_37 hR, rf_56_38 hR, kn_56, kn_57, kn_58, kn_59, kn_60, kn_61, kn_62, kn_63, kn_64, kn_65, kn_66, kn_67, kn_68, kn_69, kn_70, kn_71, kn_72, kn_73, kn_74, kn_75, kn_76, kn_77, kn_78, kn_79, kn_80, kn_81, kn_82, kn_83, ln_57, ln_58, ln_59, ln_60, ln_61, ln_62, ln_63, ln_64, ln_65, ln_66, ln_67, ln_68, ln_69, ln_70, ln_71, ln_72, ln_73, ln_74, ln_75, ln_76, ln_77, ln_78, ln_79, ln_80, ln_81, ln_82, ln_83, va_rf_some, push_s, push_n, nb0, nb1, nbb, Nat.reduceLT, h1, hw]
    refine hgo.trans ?_
    simp only [e_153_220, e_153_221, e_153_224, rf_56_0 hR, rf_56_4 hR, rf_56_5 hR, rf_56_6 hR, rf_56_7 hR, rf_56_8 hR, rf_56_9 hR, rf_56_10 hR, rf_56_11 hR, rf_56_12 hR, rf_56_14 hR, rf_56_15 hR, rf_56_19 hR, rf_56_20 hR, rf_56_21 hR, rf_56_22 hR, rf_56_23 hR, rf_56_24 hR, rf_56_25 hR, rf_56_26 hR, rf_56_27 hR, rf_56_29 hR, rf_56_32 hR, rf_56_33 hR, rf_56_34 hR, rf_56_37 hR, rf_56_38 hR, kn_56, kn_57, kn_58, kn_59, kn_60, kn_61, kn_62, kn_63, kn_64, kn_65, kn_66, kn_67, kn_68, kn_69, kn_70, kn_71, kn_72, kn_73, kn_74, kn_75, kn_76, kn_77, kn_78, kn_79, kn_80, kn_81, kn_82, kn_83, ln_57, ln_58, ln_59, ln_60, ln_61, ln_62, ln_63, ln_64, ln_65, ln_66, ln_67, ln_68, ln_69, ln_70, ln_71, ln_72, ln_73, ln_74, ln_75, ln_76, ln_77, ln_78, ln_79, ln_80, ln_81, ln_82, ln_83, va_rf_some, push_s, push_n, nb0, nb1, nbb, Nat.reduceLT, hans, hs]
end SS
