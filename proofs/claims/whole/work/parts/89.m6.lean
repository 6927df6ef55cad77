/-! ===== the class's constructor: its end ===== -/
def IM0 : Nat → Nat → Int32 := fun c k => if c = 56 then (if k = 13 then 109 else 0) else if c = 66 then (if k < 109 then nI (chN 1 k) else 0) else 0
def fhr : Option Nat × (Nat → Nat → Int32) × Nat × Nat := rds 109 (chN 1) (109 + 1) (rd0 IM0) 0 0 0
theorem fh_ok : fhr.1 = none ∧ 0 < fhr.2.2.1 := by decide +kernel
theorem fh_eq : rds 109 (chN 1) (109 + 1) (rd0 IM0) 0 0 0 = (none, fhr.2.1, fhr.2.2.1, fhr.2.2.2) := by
  show fhr = _
  have h := fh_ok.1
  generalize fhr = w at h ⊢
  obtain ⟨a, b⟩ := w
  dsimp only at h
  rw [h]
theorem ch_32 : ∀ p, p < 109 → 32 ≤ chN 1 p ∧ chN 1 p ≤ 126 := by decide +kernel
theorem clR_ok : ∀ k, k < 56 → ∀ j, j < 16 → (clR k j).getD 0 < 56 := by decide +kernel
theorem okv_lt {a : Nat} (h : a < 56) : okv (.ref a) := fun b e => by cases e; exact Or.inl h
theorem clR_16 {k j : Nat} (hj : 16 ≤ j) (hk : k < 56) : clR k j = none := by
  unfold clR
  rw [if_pos hk, if_neg (by omega), if_neg (by omega)]
  exact tR0_16 hj hk
theorem clR_okR {R : Nat → Nat → Option Nat} (hR : ∀ k j, R k j = clR k j) : okR R := by
  refine ⟨fun k j a hk ha => ?_, fun k j hk => ?_⟩
  · rw [hR] at ha
    by_cases hj : j < 16
    · have := clR_ok k hk j hj
      rw [ha] at this
      exact this
    · rw [clR_16 (by omega) hk] at ha
      cases ha
  · rw [hR]
    exact if_neg (by omega)
theorem clR_ref {R : Nat → Nat → Option Nat} (hR : ∀ k j, R k j = clR k j) : tRef 13 4 (bigR R) := by
  refine ⟨hR 12 0, hR 3 2, Or.inr ⟨rfl, rfl⟩, fun k j h1 h2 => ?_⟩
  unfold bigR
  by_cases hk : k < 56
  · rw [if_pos hk, hR]
    unfold clR
    rw [if_pos hk, if_neg h1, if_neg h2]
  · rw [if_neg hk]
theorem DR_agr {M I I' : Nat → Nat → Int32} {d nr nt : Nat} {pp : Nat → Nat} (e : ∀ c, d ≤ c → c ≤ d + 7 → I' c = I c) (hD : DR M I d nr nt pp) : DR M I' d nr nt pp := by
  unfold DR dB cB at *
  rw [e d (by omega) (by omega), e (d + 1) (by omega) (by omega), e (d + 2) (by omega) (by omega), e (d + 3) (by omega) (by omega), e (d + 4) (by omega) (by omega), e (d + 5) (by omega) (by omega), e (d + 6) (by omega) (by omega), e (d + 7) (by omega) (by omega)]
  exact hD
/-- what the class's constructor leaves in the ints: I1 is the draft as read -/
def clI (I1 I3 : Nat → Nat → Int32) : Prop := (∀ c, 56 ≤ c → I3 c = fun _ => 0) ∧ (∀ c, c < 56 → c ≠ 21 → c ≠ 22 → c ≠ 23 → c ≠ 25 → c ≠ 55 → I3 c = I1 c) ∧ (∀ k, k < 16 → I3 22 k = I1 (4 + 5) k ∧ I3 23 k = 20) ∧ (I3 21 2 = 0 ∧ I3 21 3 = I1 4 15 ∧ I3 21 4 = 0 ∧ I3 21 5 = 0 ∧ I3 21 6 = 0 ∧ I3 21 7 = -4 ∧ I3 21 8 = 0) ∧ (I3 25 1 = 0 ∧ I3 25 2 = 0 ∧ I3 55 0 = 0) ∧ I3 1 1 = 0
section M6
variable {E : tm_Env} {I : Nat → Nat → Int32} {J : Nat → Nat → Int64} {R : Nat → Nat → Option Nat}
theorem c_tclear {h d : Nat} (hR : tRef h d R) {Q : Option Int32 → tm_St → Prop} : tEv E 45 0 [.ref 1, tm_dum] [] (mS I J R) Q = Q (some (I 1 1)) (mS (va_up I 1 (upd (I 1) 1 0)) J R) := by
  simp only [e_45_0, e_45_1, e_45_4, e_45_5, e_45_6, e_45_7, e_45_10, e_45_11, rf_0_0 hR, rf_0_1 hR, rf_0_2 hR, rf_0_3 hR, rf_0_4 hR, rf_0_5 hR, rf_0_6 hR, rf_1_0 hR, rf_3_0 hR, rf_3_2 hR, rf_4_3 hR, rf_4_4 hR, rf_4_5 hR, rf_4_6 hR, rf_4_7 hR, rf_4_8 hR, rf_4_9 hR, rf_12_1 hR, rf_13_3 hR, rf_13_4 hR, rf_13_5 hR, rf_13_6 hR, rf_13_7 hR, rf_13_8 hR, rf_13_9 hR, rf_21_0 hR, rf_21_1 hR, rf_24_0 hR, rf_25_0 hR, rf_26_0 hR, rf_26_1 hR, rf_26_2 hR, rf_26_3 hR, rf_26_4 hR, rf_26_5 hR, rf_26_6 hR, rf_26_7 hR, rf_27_0 hR, rf_27_1 hR, rf_30_0 hR, rf_30_1 hR, rf_33_0 hR, rf_33_1 hR, rf_36_0 hR, rf_36_1 hR, rf_39_0 hR, rf_39_1 hR, rf_42_0 hR, rf_42_1 hR, rf_45_0 hR, rf_45_1 hR, rf_48_0 hR, rf_48_1 hR, rf_51_0 hR, rf_51_1 hR, rf_51_6 hR, rf_51_7 hR, rf_h_3 hR, rf_d_3 hR, rf_h_4 hR, rf_d_4 hR, rf_h_5 hR, rf_d_5 hR, rf_h_6 hR, rf_d_6 hR, rf_h_7 hR, rf_d_7 hR, rf_h_8 hR, rf_d_8 hR, rf_h_9 hR, rf_d_9 hR, rf_12_0 hR, rf_3_1 hR, kn_0, kn_1, kn_2, kn_3, kn_4, kn_5, kn_6, kn_7, kn_8, kn_9, kn_10, kn_11, kn_12, kn_13, kn_14, kn_15, kn_16, kn_17, kn_18, kn_19, kn_20, kn_21, kn_22, kn_23, kn_24, kn_25, kn_26, kn_27, kn_28, kn_29, kn_30, kn_31, kn_32, kn_33, kn_34, kn_35, kn_36, kn_37, kn_38, kn_39, kn_40, kn_41, kn_42, kn_43, kn_44, kn_45, kn_46, kn_47, kn_48, kn_49, kn_50, kn_51, kn_52, kn_53, kn_54, kn_55, ln_2, ln_5, ln_6, ln_7, ln_8, ln_9, ln_10, ln_11, ln_14, ln_15, ln_16, ln_17, ln_18, ln_19, ln_20, ln_22, ln_23, ln_26, ln_28, ln_29, ln_31, ln_32, ln_34, ln_35, ln_37, ln_38, ln_40, ln_41, ln_43, ln_44, ln_46, ln_47, ln_49, ln_50, ln_52, kn_h hR, lt_h hR, kn_h1 hR, ln_h1 hR, lt_h1 hR, kn_h2 hR, ln_h2 hR, lt_h2 hR, kn_h3 hR, ln_h3 hR, lt_h3 hR, kn_h4 hR, ln_h4 hR, lt_h4 hR, kn_h5 hR, ln_h5 hR, lt_h5 hR, kn_h6 hR, ln_h6 hR, lt_h6 hR, kn_h7 hR, ln_h7 hR, lt_h7 hR, kn_d hR, lt_d hR, kn_d1 hR, ln_d1 hR, lt_d1 hR, kn_d2 hR, ln_d2 hR, lt_d2 hR, kn_d3 hR, ln_d3 hR, lt_d3 hR, kn_d4 hR, ln_d4 hR, lt_d4 hR, kn_d5 hR, ln_d5 hR, lt_d5 hR, kn_d6 hR, ln_d6 hR, lt_d6 hR, kn_d7 hR, ln_d7 hR, lt_d7 hR, va_rf_some, push_s, push_n, nb0, nb1, nbb, Nat.reduceLT]
theorem c_end (hI : fhI I 109) (hR : ∀ k j, R k j = clR k j) : ∃ I1 I3 R' pp, okR R' ∧ tRef 4 13 (bigR R') ∧ DR fhr.2.1 I1 4 fhr.2.2.1 fhr.2.2.2 pp ∧ clI I1 I3 ∧ ∀ Q : Option Int32 → tm_St → Prop, Q none ((tL.take 56, I3, J, R'), (55, 1057)) → tEv E 46 124 [.ref 0, .int (nI 109)] [] ((tL.take 56, I, J, R), (55, 1057)) Q := by
  have hok := clR_okR hR
  have h13 := clR_ref hR
  have hT : TXc I 109 (chN 1) := ⟨hI.2.1, by decide, fun p hp => ⟨hI.2.2 p hp, ch_32 p hp⟩⟩
  obtain ⟨I1, pp, f, hD, st⟩ := c_readHouse_1 (E := E) (J := J) (M := rd0 IM0) h13 hT (fun k hk => rd0_76 hk) rfl rd0_I fh_eq
  obtain ⟨R1, o1, e1, s1⟩ := tEv_small (E := E) (k := 41) (ls := [.ref 3, tm_dum, tm_dum]) (v := some (-4)) (I' := I1) (J' := J) (X := bigR R) rfl (okl_cons (okv_lt (by decide)) (okl_cons okv_ret (okl_cons okv_ret okl_nil))) hok (by rw [st]; exact ⟨rfl, rfl⟩)
  have h13' : tRef 13 4 (bigR R1) := by rw [e1]; exact h13
  have ba := fun {Q} => c_begin_a (E := E) (Q := Q) (I := I1) (J := J) h13'
  have h4 := swp_ref h13'
  obtain ⟨I2, b1, b2, b3, b4, sb⟩ := c_begin_b (E := E) (J := J) (I := I1) (l1 := .ref 13) h4
  obtain ⟨R2, o2, e2, s2⟩ := tEv_small (E := E) (k := 44) (ls := [.ref 0, tm_dum]) (v := none) (I' := I2) (J' := J) (X := swp (bigR R1) 13 4) rfl (okl_cons (okv_lt (by decide)) (okl_cons okv_ret okl_nil)) o1 (by rw [ba, sb]; exact ⟨rfl, rfl⟩)
  have h4' : tRef 4 13 (bigR R2) := by rw [e2]; exact h4
  obtain ⟨R3, o3, e3, s3⟩ := tEv_small (E := E) (k := 45) (ls := [.ref 1, tm_dum]) (v := some (I2 1 1)) (I' := va_up I2 1 (upd (I2 1) 1 0)) (J' := J) (X := bigR R2) rfl (okl_cons (okv_lt (by decide)) (okl_cons okv_ret okl_nil)) o2 (by rw [c_tclear h4']; exact ⟨rfl, rfl⟩)
  refine ⟨va_up I1 1 (upd (I2 1) 1 0), va_up I2 1 (upd (I2 1) 1 0), R3, pp, o3, by rw [e3]; exact h4', DR_agr (fun c c1 c2 => by rw [vu, if_neg (by omega)]) hD, ⟨fun c hc => ?_, fun c c0 c1 c2 c3 c4 c5 => ?_, fun k hk => ?_, ?_, ?_, rfl⟩, fun Q hQ => ?_⟩
  · rw [vu, if_neg (by omega), b1 c (by omega) (by omega) (by omega) (by omega) (by omega), f c (by omega) (by omega), hI.1 c (by omega) (by omega)]
  · rw [vu, vu]
    by_cases e : c = 1
    · rw [if_pos e, if_pos e]
    · rw [if_neg e, if_neg e, b1 c c1 c2 c3 c4 c5]
  · exact b2 k hk
  · exact b3
  · refine ⟨?_, b4.2.1, b4.2.2⟩
    show I2 25 1 = 0
    rw [b4.1, f 25 (by decide) (by decide), hI.1 25 (by decide) (by decide)]
  · have r01 : R 0 1 = some 3 := hR 0 1
    have r00 : R2 0 0 = some 1 := h4'.2.2.2 0 0 (by decide) (by decide)
    have s1' := s1 (fun r S2 => tEv E 46 131 [.ref 0, .int (nI 109)] (tm_push r []) (S2.1, (55, 1057)) Q)
    have s2' := s2 (fun r S2 => tEv E 46 136 [.ref 0, .int (nI 109)] (tm_push r []) (S2.1, (55, 1057)) Q)
    have s3' := s3 (fun r S2 => tEv E 46 143 [.ref 0, .int (nI 109)] (tm_push r []) (S2.1, (55, 1057)) Q)
    simp only [e_46_124, e_46_125, e_46_128, tk_kn, tk_ln, tk_len, vb_nil, vb_ref, vb_big, vb_int, vb_dum, vu, vu_vu, va_rf_some, push_s, push_n, Nat.reduceAdd, Nat.reduceLT, Nat.reduceLeDiff, Nat.reduceEqDiff, if_true, if_false, kn_0, kn_1, kn_2, kn_3, kn_4, kn_5, kn_6, kn_7, kn_8, kn_9, kn_10, kn_11, kn_12, kn_13, kn_14, kn_15, kn_16, kn_17, kn_18, kn_19, kn_20, kn_21, kn_22, kn_23, kn_24, kn_25, kn_26, kn_27, kn_28, kn_29, kn_30, kn_31, kn_32, kn_33, kn_34, kn_35, kn_36, kn_37, kn_38, kn_39, kn_40, kn_41, kn_42, kn_43, kn_44, kn_45, kn_46, kn_47, kn_48, kn_49, kn_50, kn_51, kn_52, kn_53, kn_54, kn_55, kn_56, kn_57, kn_58, kn_59, kn_60, kn_61, kn_62, kn_63, kn_64, kn_65, kn_66, kn_67, kn_68, kn_69, kn_70, kn_71, kn_72, kn_73, kn_74, kn_75, kn_76, kn_77, kn_78, kn_79, kn_80, kn_81, kn_82, kn_83, ln_2, ln_5, ln_6, ln_7, ln_8, ln_9, ln_10, ln_11, ln_14, ln_15, ln_16, ln_17, ln_18, ln_19, ln_20, ln_22, ln_23, ln_26, ln_28, ln_29, ln_31, ln_32, ln_34, ln_35, ln_37, ln_38, ln_40, ln_41, ln_43, ln_44, ln_46, ln_47, ln_49, ln_50, ln_52, ln_57, ln_58, ln_59, ln_60, ln_61, ln_62, ln_63, ln_64, ln_65, ln_66, ln_67, ln_68, ln_69, ln_70, ln_71, ln_72, ln_73, ln_74, ln_75, ln_76, ln_77, ln_78, ln_79, ln_80, ln_81, ln_82, ln_83, tg_0, tg_1, tg_2, tg_3, tg_4, tg_5, tg_6, tg_7, tg_8, tg_9, tg_10, tg_11, tg_12, tg_13, tg_14, tg_15, tg_16, tg_17, tg_18, tg_19, tg_20, tg_21, tg_22, tg_23, tg_24, tg_25, tg_26, tg_27, tg_28, tg_29, tg_30, tg_31, tg_32, tg_33, tg_34, tg_35, tg_36, tg_37, tg_38, tg_39, tg_40, tg_41, tg_42, tg_43, tg_44, tg_45, tg_46, tg_47, tg_48, tg_49, tg_50, tg_51, tg_52, tg_53, tg_54, tg_55, tg_56, tg_57, tg_58, tg_59, tg_60, tg_61, tg_62, tg_63, tg_64, tg_65, tg_66, tg_67, tg_68, tg_69, tg_70, tg_71, tg_72, tg_73, tg_74, tg_75, tg_76, tg_77, tg_78, tg_79, tg_80, tg_81, tg_82, tg_83, r01, Nat.add_zero, and_self]
    refine s1' ?_
    show tEv E 46 131 [.ref 0, .int (nI 109)] [.int (-4)] ((tL.take 56, I1, J, R1), (55, 1057)) Q
    simp only [e_46_131, e_46_132, e_46_133, tk_kn, tk_ln, tk_len, vb_nil, vb_ref, vb_big, vb_int, vb_dum, vu, vu_vu, va_rf_some, push_s, push_n, Nat.reduceAdd, Nat.reduceLT, Nat.reduceLeDiff, Nat.reduceEqDiff, if_true, if_false, kn_0, kn_1, kn_2, kn_3, kn_4, kn_5, kn_6, kn_7, kn_8, kn_9, kn_10, kn_11, kn_12, kn_13, kn_14, kn_15, kn_16, kn_17, kn_18, kn_19, kn_20, kn_21, kn_22, kn_23, kn_24, kn_25, kn_26, kn_27, kn_28, kn_29, kn_30, kn_31, kn_32, kn_33, kn_34, kn_35, kn_36, kn_37, kn_38, kn_39, kn_40, kn_41, kn_42, kn_43, kn_44, kn_45, kn_46, kn_47, kn_48, kn_49, kn_50, kn_51, kn_52, kn_53, kn_54, kn_55, kn_56, kn_57, kn_58, kn_59, kn_60, kn_61, kn_62, kn_63, kn_64, kn_65, kn_66, kn_67, kn_68, kn_69, kn_70, kn_71, kn_72, kn_73, kn_74, kn_75, kn_76, kn_77, kn_78, kn_79, kn_80, kn_81, kn_82, kn_83, ln_2, ln_5, ln_6, ln_7, ln_8, ln_9, ln_10, ln_11, ln_14, ln_15, ln_16, ln_17, ln_18, ln_19, ln_20, ln_22, ln_23, ln_26, ln_28, ln_29, ln_31, ln_32, ln_34, ln_35, ln_37, ln_38, ln_40, ln_41, ln_43, ln_44, ln_46, ln_47, ln_49, ln_50, ln_52, ln_57, ln_58, ln_59, ln_60, ln_61, ln_62, ln_63, ln_64, ln_65, ln_66, ln_67, ln_68, ln_69, ln_70, ln_71, ln_72, ln_73, ln_74, ln_75, ln_76, ln_77, ln_78, ln_79, ln_80, ln_81, ln_82, ln_83, tg_0, tg_1, tg_2, tg_3, tg_4, tg_5, tg_6, tg_7, tg_8, tg_9, tg_10, tg_11, tg_12, tg_13, tg_14, tg_15, tg_16, tg_17, tg_18, tg_19, tg_20, tg_21, tg_22, tg_23, tg_24, tg_25, tg_26, tg_27, tg_28, tg_29, tg_30, tg_31, tg_32, tg_33, tg_34, tg_35, tg_36, tg_37, tg_38, tg_39, tg_40, tg_41, tg_42, tg_43, tg_44, tg_45, tg_46, tg_47, tg_48, tg_49, tg_50, tg_51, tg_52, tg_53, tg_54, tg_55, tg_56, tg_57, tg_58, tg_59, tg_60, tg_61, tg_62, tg_63, tg_64, tg_65, tg_66, tg_67, tg_68, tg_69, tg_70, tg_71, tg_72, tg_73, tg_74, tg_75, tg_76, tg_77, tg_78, tg_79, tg_80, tg_81, tg_82, tg_83, Nat.add_zero, and_self]
    refine s2' ?_
    show tEv E 46 136 [.ref 0, .int (nI 109)] [] ((tL.take 56, I2, J, R2), (55, 1057)) Q
    simp only [e_46_136, e_46_137, e_46_140, tk_kn, tk_ln, tk_len, vb_nil, vb_ref, vb_big, vb_int, vb_dum, vu, vu_vu, va_rf_some, push_s, push_n, Nat.reduceAdd, Nat.reduceLT, Nat.reduceLeDiff, Nat.reduceEqDiff, if_true, if_false, kn_0, kn_1, kn_2, kn_3, kn_4, kn_5, kn_6, kn_7, kn_8, kn_9, kn_10, kn_11, kn_12, kn_13, kn_14, kn_15, kn_16, kn_17, kn_18, kn_19, kn_20, kn_21, kn_22, kn_23, kn_24, kn_25, kn_26, kn_27, kn_28, kn_29, kn_30, kn_31, kn_32, kn_33, kn_34, kn_35, kn_36, kn_37, kn_38, kn_39, kn_40, kn_41, kn_42, kn_43, kn_44, kn_45, kn_46, kn_47, kn_48, kn_49, kn_50, kn_51, kn_52, kn_53, kn_54, kn_55, kn_56, kn_57, kn_58, kn_59, kn_60, kn_61, kn_62, kn_63, kn_64, kn_65, kn_66, kn_67, kn_68, kn_69, kn_70, kn_71, kn_72, kn_73, kn_74, kn_75, kn_76, kn_77, kn_78, kn_79, kn_80, kn_81, kn_82, kn_83, ln_2, ln_5, ln_6, ln_7, ln_8, ln_9, ln_10, ln_11, ln_14, ln_15, ln_16, ln_17, ln_18, ln_19, ln_20, ln_22, ln_23, ln_26, ln_28, ln_29, ln_31, ln_32, ln_34, ln_35, ln_37, ln_38, ln_40, ln_41, ln_43, ln_44, ln_46, ln_47, ln_49, ln_50, ln_52, ln_57, ln_58, ln_59, ln_60, ln_61, ln_62, ln_63, ln_64, ln_65, ln_66, ln_67, ln_68, ln_69, ln_70, ln_71, ln_72, ln_73, ln_74, ln_75, ln_76, ln_77, ln_78, ln_79, ln_80, ln_81, ln_82, ln_83, tg_0, tg_1, tg_2, tg_3, tg_4, tg_5, tg_6, tg_7, tg_8, tg_9, tg_10, tg_11, tg_12, tg_13, tg_14, tg_15, tg_16, tg_17, tg_18, tg_19, tg_20, tg_21, tg_22, tg_23, tg_24, tg_25, tg_26, tg_27, tg_28, tg_29, tg_30, tg_31, tg_32, tg_33, tg_34, tg_35, tg_36, tg_37, tg_38, tg_39, tg_40, tg_41, tg_42, tg_43, tg_44, tg_45, tg_46, tg_47, tg_48, tg_49, tg_50, tg_51, tg_52, tg_53, tg_54, tg_55, tg_56, tg_57, tg_58, tg_59, tg_60, tg_61, tg_62, tg_63, tg_64, tg_65, tg_66, tg_67, tg_68, tg_69, tg_70, tg_71, tg_72, tg_73, tg_74, tg_75, tg_76, tg_77, tg_78, tg_79, tg_80, tg_81, tg_82, tg_83, r00, Nat.add_zero, and_self]
    refine s3' ?_
    show tEv E 46 143 [.ref 0, .int (nI 109)] [.int (I2 1 1)] ((tL.take 56, va_up I2 1 (upd (I2 1) 1 0), J, R3), (55, 1057)) Q
    simp only [e_46_143, e_46_144]
    exact hQ
end M6
