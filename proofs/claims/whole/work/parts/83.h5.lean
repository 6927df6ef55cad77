/-! ===== class and model: what is said, the other branches ===== -/
section H5
variable {E : tm_Env} {Q : Option Int32 → tm_St → Prop} {I Ib : Nat → Nat → Int32} {J : Nat → Nat → Int64} {R : Nat → Nat → Option Nat} {h d : Nat} {nr nt y u nx a k c code : Nat} {pl : Nat → Nat} {wn : Nat → Nat}
/-- what the model's readers ask -/
theorem mod_WY (hW : RW I h nr nt y pl) {Im : Nat → Nat → Int32} (f : ∀ c, 57 ≤ c → c ≤ 77 → Im c = I c) (f2 : Im 56 2 = I 56 2) (f3 : Im 56 3 = I 56 3) : mW Im nr nt pl ∧ mY Im nr nt y := by
  have hw : mW Im nr nt pl := mW_cong hW.1.1 f2 f3 (fun t _ => by rw [f 57 (by decide) (by decide)])
  refine ⟨hw, ?_⟩
  have hy := hW.1.2.1
  unfold mY at hy ⊢
  rw [f 57 (by decide) (by decide), f 64 (by decide) (by decide), f 65 (by decide) (by decide)]
  exact hy
theorem f35 {Im : Nat → Nat → Int32} (f : ∀ c, 57 ≤ c → c ≤ 77 → Im c = I c) {v : Int32} : ∀ c, 57 ≤ c → c ≤ 77 → va_up Im 56 (upd (Im 56) 35 v) c = I c := fun c c1 c2 => by
  rw [vu, if_neg (by omega)]
  exact f c c1 c2
theorem hsm_3 (I : Nat → Nat → Int32) (a b c : Nat → Int32) : hsm I (va_up (va_up (va_up I 22 a) 21 b) 57 c) := ⟨⟨rfl, rfl⟩, fun q c1 c2 => by rw [vu, if_neg (by omega), vu, if_neg (by omega), vu, if_neg (by omega)], fun q c1 c2 => by rw [vu, if_neg (by omega), vu, if_neg (by omega), vu, if_neg (by omega)]⟩
theorem br_13 (hR : tRef h d R) (hh : h = 4 ∨ h = 13) (hW : RW I h nr nt y pl) (hG : RNG I h nr nt u nx) (hD : DB I nt a k) (b1 : ∀ c, c < 51 → Ib c = I c) (b2 : ∀ c, 55 ≤ c → Ib c = I c) : BRC E J R I Ib h nr nt c wn 13 := by
  have hq0 : frQ I (va_up Ib 55 (upd (Ib 55) 0 0)) := frQ_trans (frQ_b b1 b2) (frQ_55 Ib _)
  have hW0 := frQ_W hh hq0 hW
  have hG0 := frQ_G hh hq0 hG
  have h16 := RR_16 hW.1
  have sw : ∀ Q, tEv E 136 35 [.ref 0, .int (knd 13)] [] (mS Ib J R) Q = tEv E 128 0 [.ref 0, tm_dum, tm_dum] [] (mS (va_up Ib 55 (upd (Ib 55) 0 0)) J R) (fun r S2 => tEv E 135 45 [.ref 0, .int (nI 4)] (tm_push r []) (S2.1, (0, 0)) (fun r S2 => tEv E 136 95 [.ref 0, .int (nI 4)] (tm_push r []) (S2.1, (0, 0)) Q)) := fun Q => by
    simp only [e_136_35, e_136_36, e_136_39, e_136_40, e_136_41, e_136_42, e_136_43, e_136_46, e_136_47, e_136_50, e_136_53, e_136_54, e_136_57, e_136_60, e_136_61, e_136_62, e_136_63, e_136_66, e_136_69, e_136_70, e_136_71, e_136_74, e_136_75, e_136_78, e_136_81, e_136_82, e_136_85, e_136_88, e_136_89, e_136_90, e_136_91, e_136_92, rf_0_0 hR, rf_0_1 hR, rf_0_2 hR, rf_0_3 hR, rf_0_4 hR, rf_0_5 hR, rf_0_6 hR, rf_1_0 hR, rf_3_0 hR, rf_3_2 hR, rf_4_3 hR, rf_4_4 hR, rf_4_5 hR, rf_4_6 hR, rf_4_7 hR, rf_4_8 hR, rf_4_9 hR, rf_12_1 hR, rf_13_3 hR, rf_13_4 hR, rf_13_5 hR, rf_13_6 hR, rf_13_7 hR, rf_13_8 hR, rf_13_9 hR, rf_21_0 hR, rf_21_1 hR, rf_24_0 hR, rf_25_0 hR, rf_26_0 hR, rf_26_1 hR, rf_26_2 hR, rf_26_3 hR, rf_26_4 hR, rf_26_5 hR, rf_26_6 hR, rf_26_7 hR, rf_27_0 hR, rf_27_1 hR, rf_30_0 hR, rf_30_1 hR, rf_33_0 hR, rf_33_1 hR, rf_36_0 hR, rf_36_1 hR, rf_39_0 hR, rf_39_1 hR, rf_42_0 hR, rf_42_1 hR, rf_45_0 hR, rf_45_1 hR, rf_48_0 hR, rf_48_1 hR, rf_51_0 hR, rf_51_1 hR, rf_51_6 hR, rf_51_7 hR, rf_h_3 hR, rf_d_3 hR, rf_h_4 hR, rf_d_4 hR, rf_h_5 hR, rf_d_5 hR, rf_h_6 hR, rf_d_6 hR, rf_h_7 hR, rf_d_7 hR, rf_h_8 hR, rf_d_8 hR, rf_h_9 hR, rf_d_9 hR, rf_12_0 hR, rf_3_1 hR, kn_0, kn_1, kn_2, kn_3, kn_4, kn_5, kn_6, kn_7, kn_8, kn_9, kn_10, kn_11, kn_12, kn_13, kn_14, kn_15, kn_16, kn_17, kn_18, kn_19, kn_20, kn_21, kn_22, kn_23, kn_24, kn_25, kn_26, kn_27, kn_28, kn_29, kn_30, kn_31, kn_32, kn_33, kn_34, kn_35, kn_36, kn_37, kn_38, kn_39, kn_40, kn_41, kn_42, kn_43, kn_44, kn_45, kn_46, kn_47, kn_48, kn_49, kn_50, kn_51, kn_52, kn_53, kn_54, kn_55, ln_2, ln_5, ln_6, ln_7, ln_8, ln_9, ln_10, ln_11, ln_14, ln_15, ln_16, ln_17, ln_18, ln_19, ln_20, ln_22, ln_23, ln_26, ln_28, ln_29, ln_31, ln_32, ln_34, ln_35, ln_37, ln_38, ln_40, ln_41, ln_43, ln_44, ln_46, ln_47, ln_49, ln_50, ln_52, kn_h hR, lt_h hR, kn_h1 hR, ln_h1 hR, lt_h1 hR, kn_h2 hR, ln_h2 hR, lt_h2 hR, kn_h3 hR, ln_h3 hR, lt_h3 hR, kn_h4 hR, ln_h4 hR, lt_h4 hR, kn_h5 hR, ln_h5 hR, lt_h5 hR, kn_h6 hR, ln_h6 hR, lt_h6 hR, kn_h7 hR, ln_h7 hR, lt_h7 hR, kn_d hR, lt_d hR, kn_d1 hR, ln_d1 hR, lt_d1 hR, kn_d2 hR, ln_d2 hR, lt_d2 hR, kn_d3 hR, ln_d3 hR, lt_d3 hR, kn_d4 hR, ln_d4 hR, lt_d4 hR, kn_d5 hR, ln_d5 hR, lt_d5 hR, kn_d6 hR, ln_d6 hR, lt_d6 hR, kn_d7 hR, ln_d7 hR, lt_d7 hR, va_rf_some, push_s, push_n, nb0, nb1, nbb, Nat.reduceLT, show knd 13 = nI 4 from rfl, show (nI 4 = 0) = False from eq_false (by decide), show (nI 4 = 2) = False from eq_false (by decide), show (nI 4 = 1) = False from eq_false (by decide), if_false, c_dend hR, e_135_0, e_135_36, e_135_37, e_135_40, e_135_41, e_135_42, e_135_1_4]
  by_cases c0 : anyb (fun k => pl k == 30) nt = true
  · obtain ⟨I1, P', I3, k1, p1, t1, hq⟩ := c_dropAll_1 (E := E) (J := J) hR hW0 hG0.2.1 hG0.1 hG0.2.2.1.1 hG0.2.2.1.2.1 c0
    refine br_done hR hh hW hG hD b1 b2 k1 (B := va_up I1 22 P') (fun c g1 g2 => by rw [vu, if_neg g2]) t1 (fun Q => ?_) (fun Im _ f f56 => ?_)
    · rw [sw Q, hq]
      simp only [e_135_45, e_136_95, va_rf_some, push_s, push_n, nb0, nb1, nbb, Nat.reduceLT]
    · have f' := f35 f (v := 0)
      obtain ⟨mw', my'⟩ := mod_WY hW (Im := va_up Im 56 (upd (Im 56) 35 0)) f' f56.2.1 f56.2.2
      have hm := fun {Q} => m_dropsAll_1 (E := E) (Q := Q) (J := J) hR mw' my' hG.1 (show va_up Im 56 (upd (Im 56) 35 0) 56 1 = nI u from f56.1.trans hG.2.2.1.2.2) c0
      have hy := hW.1.2.1.2.1
      have h6 := hW.1.1.2.2.1
      refine ⟨_, y, drp pl y nt, ?_, ?_, fun Q => m_say_13 hR (fun Q => hm)⟩
      · intro q q1 q2
        unfold pF
        rw [if_neg (by omega), f' 57 (by decide) (by decide)]
      · refine act_places hh hW0 (hsm_3 _ _ _ _) (fun t ht => ?_) (fun t ht => drp_ends (by omega) (hW.1.1.2.2.2.2.2 t ht) nt) (fun t ht => ?_) (fun k k1' k2 => ?_) (fun t ht => rfl) (fun q hq' => ?_)
        · unfold drp
          split
          · exact Or.inl hy
          · exact (hW.1.1.2.2.2.2.1 t ht).2
        · show P' t = _
          exact p1 t ht
        · show I1 21 k = _
          rw [k1.1 21 (by decide) (by omega) (by omega) (by omega)]
        · show pF _ _ _ q = _
          unfold pF
          by_cases c2 : q < nt
          · rw [if_pos c2, if_pos c2]
          · rw [if_neg c2, if_neg c2, f' 57 (by decide) (by decide), mmind_lo _ hq', hq0.2.1 57 (by decide) (by decide)]
  · have c0' : anyb (fun k => pl k == 30) nt = false := by simpa using c0
    refine br_none hR hh hW hG hD b1 b2 (v := 17) (fun Q => ?_) (fun Im q1 Q => ?_)
    · rw [sw Q, c_dropAll_0 hR hW0 c0']
      simp only [e_135_45, e_136_95, va_rf_some, push_s, push_n, nb0, nb1, nbb, Nat.reduceLT]
    · have f' := f35 q1.2.1 (v := 0)
      obtain ⟨mw', my'⟩ := mod_WY hW (Im := va_up Im 56 (upd (Im 56) 35 0)) f' q1.2.2.2.1 q1.2.2.2.2.1
      exact m_say_13 hR (fun Q => m_dropsAll_0 hR mw' c0')
theorem br_14 (hR : tRef h d R) (hh : h = 4 ∨ h = 13) (hW : RW I h nr nt y pl) (hG : RNG I h nr nt u nx) (hD : DB I nt a k) (b1 : ∀ c, c < 51 → Ib c = I c) (b2 : ∀ c, 55 ≤ c → Ib c = I c) : BRC E J R I Ib h nr nt c wn 14 := by
  have hq0 : frQ I (va_up Ib 55 (upd (Ib 55) 0 0)) := frQ_trans (frQ_b b1 b2) (frQ_55 Ib _)
  have hW0 := frQ_W hh hq0 hW
  have hG0 := frQ_G hh hq0 hG
  have h16 := RR_16 hW.1
  have lit : ∀ {Im : Nat → Nat → Int32}, (∀ c, 57 ≤ c → c ≤ 77 → Im c = I c) → mlit Im pl nt y y = mlit I pl nt y y := fun {Im} f => by
    unfold mlit mshut mcl mon
    rw [f 57 (by decide) (by decide), f 58 (by decide) (by decide), f 62 (by decide) (by decide)]
  have sees : ∀ {Im : Nat → Nat → Int32}, (∀ c, 57 ≤ c → c ≤ 77 → Im c = I c) → ct (mseen Im pl nt y) nt = ct (mseen I pl nt y) nt := fun {Im} f => ct_cong (fun t _ => mseen_same (f 57 (by decide) (by decide)) (f 58 (by decide) (by decide)) (f 62 (by decide) (by decide)) (f 65 (by decide) (by decide)) t)
  have sw : ∀ Q, tEv E 136 35 [.ref 0, .int (knd 14)] [] (mS Ib J R) Q = tEv E 129 0 [.ref 0] [] (mS (va_up Ib 55 (upd (Ib 55) 0 0)) J R) (fun r S2 => tEv E 135 50 [.ref 0, .int (nI 5)] (tm_push r []) (S2.1, (0, 0)) (fun r S2 => tEv E 136 95 [.ref 0, .int (nI 5)] (tm_push r []) (S2.1, (0, 0)) Q)) := fun Q => by
    simp only [e_136_35, e_136_36, e_136_39, e_136_40, e_136_41, e_136_42, e_136_43, e_136_46, e_136_47, e_136_50, e_136_53, e_136_54, e_136_57, e_136_60, e_136_61, e_136_62, e_136_63, e_136_66, e_136_69, e_136_70, e_136_71, e_136_74, e_136_75, e_136_78, e_136_81, e_136_82, e_136_85, e_136_88, e_136_89, e_136_90, e_136_91, e_136_92, rf_0_0 hR, rf_0_1 hR, rf_0_2 hR, rf_0_3 hR, rf_0_4 hR, rf_0_5 hR, rf_0_6 hR, rf_1_0 hR, rf_3_0 hR, rf_3_2 hR, rf_4_3 hR, rf_4_4 hR, rf_4_5 hR, rf_4_6 hR, rf_4_7 hR, rf_4_8 hR, rf_4_9 hR, rf_12_1 hR, rf_13_3 hR, rf_13_4 hR, rf_13_5 hR, rf_13_6 hR, rf_13_7 hR, rf_13_8 hR, rf_13_9 hR, rf_21_0 hR, rf_21_1 hR, rf_24_0 hR, rf_25_0 hR, rf_26_0 hR, rf_26_1 hR, rf_26_2 hR, rf_26_3 hR, rf_26_4 hR, rf_26_5 hR, rf_26_6 hR, rf_26_7 hR, rf_27_0 hR, rf_27_1 hR, rf_30_0 hR, rf_30_1 hR, rf_33_0 hR, rf_33_1 hR, rf_36_0 hR, rf_36_1 hR, rf_39_0 hR, rf_39_1 hR, rf_42_0 hR, rf_42_1 hR, rf_45_0 hR, rf_45_1 hR, rf_48_0 hR, rf_48_1 hR, rf_51_0 hR, rf_51_1 hR, rf_51_6 hR, rf_51_7 hR, rf_h_3 hR, rf_d_3 hR, rf_h_4 hR, rf_d_4 hR, rf_h_5 hR, rf_d_5 hR, rf_h_6 hR, rf_d_6 hR, rf_h_7 hR, rf_d_7 hR, rf_h_8 hR, rf_d_8 hR, rf_h_9 hR, rf_d_9 hR, rf_12_0 hR, rf_3_1 hR, kn_0, kn_1, kn_2, kn_3, kn_4, kn_5, kn_6, kn_7, kn_8, kn_9, kn_10, kn_11, kn_12, kn_13, kn_14, kn_15, kn_16, kn_17, kn_18, kn_19, kn_20, kn_21, kn_22, kn_23, kn_24, kn_25, kn_26, kn_27, kn_28, kn_29, kn_30, kn_31, kn_32, kn_33, kn_34, kn_35, kn_36, kn_37, kn_38, kn_39, kn_40, kn_41, kn_42, kn_43, kn_44, kn_45, kn_46, kn_47, kn_48, kn_49, kn_50, kn_51, kn_52, kn_53, kn_54, kn_55, ln_2, ln_5, ln_6, ln_7, ln_8, ln_9, ln_10, ln_11, ln_14, ln_15, ln_16, ln_17, ln_18, ln_19, ln_20, ln_22, ln_23, ln_26, ln_28, ln_29, ln_31, ln_32, ln_34, ln_35, ln_37, ln_38, ln_40, ln_41, ln_43, ln_44, ln_46, ln_47, ln_49, ln_50, ln_52, kn_h hR, lt_h hR, kn_h1 hR, ln_h1 hR, lt_h1 hR, kn_h2 hR, ln_h2 hR, lt_h2 hR, kn_h3 hR, ln_h3 hR, lt_h3 hR, kn_h4 hR, ln_h4 hR, lt_h4 hR, kn_h5 hR, ln_h5 hR, lt_h5 hR, kn_h6 hR, ln_h6 hR, lt_h6 hR, kn_h7 hR, ln_h7 hR, lt_h7 hR, kn_d hR, lt_d hR, kn_d1 hR, ln_d1 hR, lt_d1 hR, kn_d2 hR, ln_d2 hR, lt_d2 hR, kn_d3 hR, ln_d3 hR, lt_d3 hR, kn_d4 hR, ln_d4 hR, lt_d4 hR, kn_d5 hR, ln_d5 hR, lt_d5 hR, kn_d6 hR, ln_d6 hR, lt_d6 hR, kn_d7 hR, ln_d7 hR, lt_d7 hR, va_rf_some, push_s, push_n, nb0, nb1, nbb, Nat.reduceLT, show knd 14 = nI 5 from rfl, show (nI 5 = 0) = False from eq_false (by decide), show (nI 5 = 2) = False from eq_false (by decide), show (nI 5 = 1) = False from eq_false (by decide), if_false, c_dend hR, e_135_0, e_135_36, e_135_37, e_135_40, e_135_41, e_135_42, e_135_45, e_135_46, e_135_47, e_135_1_5]
  by_cases c0 : mlit I pl nt y y = true
  · obtain ⟨I1, I3, k1, t1, hq⟩ := c_look_1 (E := E) (J := J) hR hW0 hG0.2.1 hG0.1 hG0.2.2.1.1 hG0.2.2.1.2.1 ((lit hq0.2.1).trans c0)
    rw [sees hq0.2.1] at t1
    refine br_done hR hh hW hG hD b1 b2 k1 (B := va_up I1 21 (upd (I1 21) 8 (nI (ct (mseen I pl nt y) nt)))) (fun c g1 g2 => by rw [vu, if_neg g1]) t1 (fun Q => ?_) (fun Im _ f f56 => ?_)
    · rw [sw Q, hq]
      simp only [e_135_50, e_136_95, va_rf_some, push_s, push_n, nb0, nb1, nbb, Nat.reduceLT]
    · have f' := f35 f (v := 0)
      obtain ⟨mw', my'⟩ := mod_WY hW (Im := va_up Im 56 (upd (Im 56) 35 0)) f' f56.2.1 f56.2.2
      have hm := fun {Q} => m_looksRound_1 (E := E) (Q := Q) (J := J) hR mw' my' hG.1 (show va_up Im 56 (upd (Im 56) 35 0) 56 1 = nI u from f56.1.trans hG.2.2.1.2.2) ((lit f').trans c0)
      rw [sees f'] at hm
      refine ⟨_, y, pl, ?_, ?_, fun Q => m_say_14 hR (fun Q => hm)⟩
      · intro q q1 q2
        rw [ud, if_neg (by omega), f' 57 (by decide) (by decide)]
      · refine act_told hh hW0 (hsm_3 _ _ _ _) (w := I 57 50) (v := nI (ct (mseen I pl nt y) nt)) (Or.inl (by rw [hq0.2.1 57 (by decide) (by decide)])) (fun t ht => ?_) (fun k k1' k2 => ?_) (fun t ht => rfl) (fun q hq' => ?_)
        · show I1 22 t = _
          rw [k1.1 22 (by decide) (by omega) (by omega) (by omega)]
        · show upd (I1 21) 8 _ k = _
          have e21 : I1 21 = va_up Ib 55 (upd (Ib 55) 0 0) 21 := k1.1 21 (by decide) (by omega) (by omega) (by omega)
          have e7 : va_up Ib 55 (upd (Ib 55) 0 0) 21 7 = I 57 50 := hW0.1.2.2.2.1.2.2.2.1.trans (by rw [hq0.2.1 57 (by decide) (by decide)])
          rw [ud, e21]
          by_cases c2 : k = 8
          · rw [if_pos c2, if_neg (show ¬ k = 7 by omega)]
          · rw [if_neg c2]
            by_cases c3 : k = 7
            · rw [if_pos c3, c3]
              exact e7
            · rw [if_neg c3]
        · show upd (mmind _ u) 51 _ q = _
          rw [ud, f' 57 (by decide) (by decide), mmind_lo _ hq', hq0.2.1 57 (by decide) (by decide)]
          by_cases c2 : q = 51
          · rw [if_pos c2, if_neg (show ¬ q = 50 by omega)]
          · rw [if_neg c2]
            by_cases c3 : q = 50
            · rw [if_pos c3, c3]
            · rw [if_neg c3]
  · have c0' : mlit I pl nt y y = false := by simpa using c0
    refine br_none hR hh hW hG hD b1 b2 (v := 5) (fun Q => ?_) (fun Im q1 Q => ?_)
    · rw [sw Q, c_look_0 hR hW0 ((lit hq0.2.1).trans c0')]
      simp only [e_135_50, e_136_95, va_rf_some, push_s, push_n, nb0, nb1, nbb, Nat.reduceLT]
    · have f' := f35 q1.2.1 (v := 0)
      obtain ⟨mw', my'⟩ := mod_WY hW (Im := va_up Im 56 (upd (Im 56) 35 0)) f' q1.2.2.2.1 q1.2.2.2.2.1
      exact m_say_14 hR (fun Q => m_looksRound_0 hR mw' my' ((lit f').trans c0'))
theorem br_15 (hR : tRef h d R) (hh : h = 4 ∨ h = 13) (hW : RW I h nr nt y pl) (hG : RNG I h nr nt u nx) (hD : DB I nt a k) (b1 : ∀ c, c < 51 → Ib c = I c) (b2 : ∀ c, 55 ≤ c → Ib c = I c) : BRC E J R I Ib h nr nt c wn 15 := by
  have hq0 : frQ I (va_up Ib 55 (upd (Ib 55) 0 0)) := frQ_trans (frQ_b b1 b2) (frQ_55 Ib _)
  have hW0 := frQ_W hh hq0 hW
  have hG0 := frQ_G hh hq0 hG
  obtain ⟨I1, I3, k1, t1, hq⟩ := c_wait (E := E) (J := J) hR hG0.2.1 hG0.1 hG0.2.2.1.1 hG0.2.2.1.2.1
  refine br_done hR hh hW hG hD b1 b2 k1 (B := I1) (fun c g1 g2 => rfl) t1 (fun Q => ?_) (fun Im _ f f56 => ?_)
  · simp only [e_136_35, e_136_36, e_136_39, e_136_40, e_136_41, e_136_42, e_136_43, e_136_46, e_136_47, e_136_50, e_136_53, e_136_54, e_136_57, e_136_60, e_136_61, e_136_62, e_136_63, e_136_66, e_136_69, e_136_70, e_136_71, e_136_74, e_136_75, e_136_78, e_136_81, e_136_82, e_136_85, e_136_88, e_136_89, e_136_90, e_136_91, e_136_92, rf_0_0 hR, rf_0_1 hR, rf_0_2 hR, rf_0_3 hR, rf_0_4 hR, rf_0_5 hR, rf_0_6 hR, rf_1_0 hR, rf_3_0 hR, rf_3_2 hR, rf_4_3 hR, rf_4_4 hR, rf_4_5 hR, rf_4_6 hR, rf_4_7 hR, rf_4_8 hR, rf_4_9 hR, rf_12_1 hR, rf_13_3 hR, rf_13_4 hR, rf_13_5 hR, rf_13_6 hR, rf_13_7 hR, rf_13_8 hR, rf_13_9 hR, rf_21_0 hR, rf_21_1 hR, rf_24_0 hR, rf_25_0 hR, rf_26_0 hR, rf_26_1 hR, rf_26_2 hR, rf_26_3 hR, rf_26_4 hR, rf_26_5 hR, rf_26_6 hR, rf_26_7 hR, rf_27_0 hR, rf_27_1 hR, rf_30_0 hR, rf_30_1 hR, rf_33_0 hR, rf_33_1 hR, rf_36_0 hR, rf_36_1 hR, rf_39_0 hR, rf_39_1 hR, rf_42_0 hR, rf_42_1 hR, rf_45_0 hR, rf_45_1 hR, rf_48_0 hR, rf_48_1 hR, rf_51_0 hR, rf_51_1 hR, rf_51_6 hR, rf_51_7 hR, rf_h_3 hR, rf_d_3 hR, rf_h_4 hR, rf_d_4 hR, rf_h_5 hR, rf_d_5 hR, rf_h_6 hR, rf_d_6 hR, rf_h_7 hR, rf_d_7 hR, rf_h_8 hR, rf_d_8 hR, rf_h_9 hR, rf_d_9 hR, rf_12_0 hR, rf_3_1 hR, kn_0, kn_1, kn_2, kn_3, kn_4, kn_5, kn_6, kn_7, kn_8, kn_9, kn_10, kn_11, kn_12, kn_13, kn_14, kn_15, kn_16, kn_17, kn_18, kn_19, kn_20, kn_21, kn_22, kn_23, kn_24, kn_25, kn_26, kn_27, kn_28, kn_29, kn_30, kn_31, kn_32, kn_33, kn_34, kn_35, kn_36, kn_37, kn_38, kn_39, kn_40, kn_41, kn_42, kn_43, kn_44, kn_45, kn_46, kn_47, kn_48, kn_49, kn_50, kn_51, kn_52, kn_53, kn_54, kn_55, ln_2, ln_5, ln_6, ln_7, ln_8, ln_9, ln_10, ln_11, ln_14, ln_15, ln_16, ln_17, ln_18, ln_19, ln_20, ln_22, ln_23, ln_26, ln_28, ln_29, ln_31, ln_32, ln_34, ln_35, ln_37, ln_38, ln_40, ln_41, ln_43, ln_44, ln_46, ln_47, ln_49, ln_50, ln_52, kn_h hR, lt_h hR, kn_h1 hR, ln_h1 hR, lt_h1 hR, kn_h2 hR, ln_h2 hR, lt_h2 hR, kn_h3 hR, ln_h3 hR, lt_h3 hR, kn_h4 hR, ln_h4 hR, lt_h4 hR, kn_h5 hR, ln_h5 hR, lt_h5 hR, kn_h6 hR, ln_h6 hR, lt_h6 hR, kn_h7 hR, ln_h7 hR, lt_h7 hR, kn_d hR, lt_d hR, kn_d1 hR, ln_d1 hR, lt_d1 hR, kn_d2 hR, ln_d2 hR, lt_d2 hR, kn_d3 hR, ln_d3 hR, lt_d3 hR, kn_d4 hR, ln_d4 hR, lt_d4 hR, kn_d5 hR, ln_d5 hR, lt_d5 hR, kn_d6 hR, ln_d6 hR, lt_d6 hR, kn_d7 hR, ln_d7 hR, lt_d7 hR, va_rf_some, push_s, push_n, nb0, nb1, nbb, Nat.reduceLT, show knd 15 = nI 6 from rfl, show (nI 6 = 0) = False from eq_false (by decide), show (nI 6 = 2) = False from eq_false (by decide), show (nI 6 = 1) = False from eq_false (by decide), if_false, c_dend hR, e_135_0, e_135_1_6, hq]
    simp only [e_136_95, va_rf_some, push_s, push_n, nb0, nb1, nbb, Nat.reduceLT]
  · have f' := f35 f (v := 0)
    obtain ⟨mw', my'⟩ := mod_WY hW (Im := va_up Im 56 (upd (Im 56) 35 0)) f' f56.2.1 f56.2.2
    have hm := fun {Q} => m_waits (E := E) (Q := Q) (J := J) hR mw' hG.1 (show va_up Im 56 (upd (Im 56) 35 0) 56 1 = nI u from f56.1.trans hG.2.2.1.2.2)
    refine ⟨_, y, pl, ?_, ?_, fun Q => m_say_15 hR (fun Q => hm)⟩
    · intro q q1 q2
      rw [f' 57 (by decide) (by decide)]
    · refine RW_agr hh ?_ hW0
      have hs := hsm_3 (va_up Ib 55 (upd (Ib 55) 0 0)) (I1 22) (I1 21) (mmind (va_up Im 56 (upd (Im 56) 35 0) 57) u)
      refine ⟨hs.1, hs.2.1, hs.2.2, fun q hq' => ?_, fun k k1' k2 => ?_, fun t ht => ⟨?_, rfl⟩⟩
      · show mmind _ u q = _
        rw [mmind_lo _ hq', f' 57 (by decide) (by decide), hq0.2.1 57 (by decide) (by decide)]
      · show I1 21 k = _
        rw [k1.1 21 (by decide) (by omega) (by omega) (by omega)]
      · show I1 22 t = _
        rw [k1.1 22 (by decide) (by omega) (by omega) (by omega)]
theorem br_go (hR : tRef h d R) (hh : h = 4 ∨ h = 13) (hW : RW I h nr nt y pl) (hG : RNG I h nr nt u nx) (hD : DB I nt a k) (b1 : ∀ c, c < 51 → Ib c = I c) (b2 : ∀ c, 55 ≤ c → Ib c = I c) {b : Nat} (hb : b < 4) (h5 : Ib 51 5 = nI b) : BRC E J R I Ib h nr nt c wn (16 + b) := by
  have hq0 : frQ I (va_up Ib 55 (upd (Ib 55) 0 0)) := frQ_trans (frQ_b b1 b2) (frQ_55 Ib _)
  have hW0 := frQ_W hh hq0 hW
  have hG0 := frQ_G hh hq0 hG
  have h16 := RR_16 hW.1
  have h6 := hW.1.1.2.2.1
  have hy := hW.1.2.1.2.1
  have e51 : va_up Ib 55 (upd (Ib 55) 0 0) 51 5 = nI b := h5
  have ek : knd (16 + b) = nI 7 := by
    unfold knd
    rw [if_neg (by omega), if_neg (by omega), if_neg (by omega), if_neg (by omega), if_neg (by omega), if_neg (by omega), if_neg (by omega)]
    rfl
  have sw : ∀ Q, tEv E 136 35 [.ref 0, .int (knd (16 + b))] [] (mS Ib J R) Q = tEv E 134 0 [.ref 0, .int (nI b), tm_dum] [] (mS (va_up Ib 55 (upd (Ib 55) 0 0)) J R) (fun r S2 => tEv E 135 62 [.ref 0, .int (nI 7)] (tm_push r []) (S2.1, (0, 0)) (fun r S2 => tEv E 136 95 [.ref 0, .int (nI 7)] (tm_push r []) (S2.1, (0, 0)) Q)) := fun Q => by
    simp only [e_136_35, e_136_36, e_136_39, e_136_40, e_136_41, e_136_42, e_136_43, e_136_46, e_136_47, e_136_50, e_136_53, e_136_54, e_136_57, e_136_60, e_136_61, e_136_62, e_136_63, e_136_66, e_136_69, e_136_70, e_136_71, e_136_74, e_136_75, e_136_78, e_136_81, e_136_82, e_136_85, e_136_88, e_136_89, e_136_90, e_136_91, e_136_92, rf_0_0 hR, rf_0_1 hR, rf_0_2 hR, rf_0_3 hR, rf_0_4 hR, rf_0_5 hR, rf_0_6 hR, rf_1_0 hR, rf_3_0 hR, rf_3_2 hR, rf_4_3 hR, rf_4_4 hR, rf_4_5 hR, rf_4_6 hR, rf_4_7 hR, rf_4_8 hR, rf_4_9 hR, rf_12_1 hR, rf_13_3 hR, rf_13_4 hR, rf_13_5 hR, rf_13_6 hR, rf_13_7 hR, rf_13_8 hR, rf_13_9 hR, rf_21_0 hR, rf_21_1 hR, rf_24_0 hR, rf_25_0 hR, rf_26_0 hR, rf_26_1 hR, rf_26_2 hR, rf_26_3 hR, rf_26_4 hR, rf_26_5 hR, rf_26_6 hR, rf_26_7 hR, rf_27_0 hR, rf_27_1 hR, rf_30_0 hR, rf_30_1 hR, rf_33_0 hR, rf_33_1 hR, rf_36_0 hR, rf_36_1 hR, rf_39_0 hR, rf_39_1 hR, rf_42_0 hR, rf_42_1 hR, rf_45_0 hR, rf_45_1 hR, rf_48_0 hR, rf_48_1 hR, rf_51_0 hR, rf_51_1 hR, rf_51_6 hR, rf_51_7 hR, rf_h_3 hR, rf_d_3 hR, rf_h_4 hR, rf_d_4 hR, rf_h_5 hR, rf_d_5 hR, rf_h_6 hR, rf_d_6 hR, rf_h_7 hR, rf_d_7 hR, rf_h_8 hR, rf_d_8 hR, rf_h_9 hR, rf_d_9 hR, rf_12_0 hR, rf_3_1 hR, kn_0, kn_1, kn_2, kn_3, kn_4, kn_5, kn_6, kn_7, kn_8, kn_9, kn_10, kn_11, kn_12, kn_13, kn_14, kn_15, kn_16, kn_17, kn_18, kn_19, kn_20, kn_21, kn_22, kn_23, kn_24, kn_25, kn_26, kn_27, kn_28, kn_29, kn_30, kn_31, kn_32, kn_33, kn_34, kn_35, kn_36, kn_37, kn_38, kn_39, kn_40, kn_41, kn_42, kn_43, kn_44, kn_45, kn_46, kn_47, kn_48, kn_49, kn_50, kn_51, kn_52, kn_53, kn_54, kn_55, ln_2, ln_5, ln_6, ln_7, ln_8, ln_9, ln_10, ln_11, ln_14, ln_15, ln_16, ln_17, ln_18, ln_19, ln_20, ln_22, ln_23, ln_26, ln_28, ln_29, ln_31, ln_32, ln_34, ln_35, ln_37, ln_38, ln_40, ln_41, ln_43, ln_44, ln_46, ln_47, ln_49, ln_50, ln_52, kn_h hR, lt_h hR, kn_h1 hR, ln_h1 hR, lt_h1 hR, kn_h2 hR, ln_h2 hR, lt_h2 hR, kn_h3 hR, ln_h3 hR, lt_h3 hR, kn_h4 hR, ln_h4 hR, lt_h4 hR, kn_h5 hR, ln_h5 hR, lt_h5 hR, kn_h6 hR, ln_h6 hR, lt_h6 hR, kn_h7 hR, ln_h7 hR, lt_h7 hR, kn_d hR, lt_d hR, kn_d1 hR, ln_d1 hR, lt_d1 hR, kn_d2 hR, ln_d2 hR, lt_d2 hR, kn_d3 hR, ln_d3 hR, lt_d3 hR, kn_d4 hR, ln_d4 hR, lt_d4 hR, kn_d5 hR, ln_d5 hR, lt_d5 hR, kn_d6 hR, ln_d6 hR, lt_d6 hR, kn_d7 hR, ln_d7 hR, lt_d7 hR, va_rf_some, push_s, push_n, nb0, nb1, nbb, Nat.reduceLT, ek, show (nI 7 = 0) = False from eq_false (by decide), show (nI 7 = 2) = False from eq_false (by decide), show (nI 7 = 1) = False from eq_false (by decide), if_false, c_dend hR, e_135_0, e_135_36, e_135_37, e_135_40, e_135_41, e_135_42, e_135_45, e_135_46, e_135_47, e_135_50, e_135_51, e_135_52, e_135_53, e_135_56, e_135_59, e_135_1_7, e51]
  have e64 : va_up Ib 55 (upd (Ib 55) 0 0) 64 = I 64 := hq0.2.1 64 (by decide) (by decide)
  have e65 : va_up Ib 55 (upd (Ib 55) 0 0) 65 = I 65 := hq0.2.1 65 (by decide) (by decide)
  have cl : ∀ {Im : Nat → Nat → Int32} (t : Nat), (∀ c, 57 ≤ c → c ≤ 77 → Im c = I c) → mcl Im t = mcl I t := fun {Im} t f => by
    unfold mcl
    rw [f 57 (by decide) (by decide), f 62 (by decide) (by decide)]
  by_cases c0 : I 64 (4 * y + b) = -4
  · refine br_none hR hh hW hG hD b1 b2 (v := 12) (fun Q => ?_) (fun Im q1 Q => ?_)
    · rw [sw Q, c_go_0 hR hW0 hb (by rw [e64]; exact c0)]
      simp only [e_135_62, e_136_95, va_rf_some, push_s, push_n, nb0, nb1, nbb, Nat.reduceLT]
    · have f' := f35 q1.2.1 (v := 0)
      obtain ⟨mw', my'⟩ := mod_WY hW (Im := va_up Im 56 (upd (Im 56) 35 0)) f' q1.2.2.2.1 q1.2.2.2.2.1
      exact m_say_go hR hb (fun Q => m_goesBy_0 hR mw' my' hb (by rw [f' 64 (by decide) (by decide)]; exact c0))
  · by_cases c1 : ∃ t, t < nt ∧ I 65 (4 * y + b) = nI t ∧ mcl I t = true
    · obtain ⟨t, g1, g2, g3⟩ := c1
      refine br_none hR hh hW hG hD b1 b2 (v := 6) (fun Q => ?_) (fun Im q1 Q => ?_)
      · rw [sw Q, c_go_1 hR hW0 hb (by rw [e64]; exact c0) g1 (by rw [e65]; exact g2) (by rw [cl t hq0.2.1]; exact g3)]
        simp only [e_135_62, e_136_95, va_rf_some, push_s, push_n, nb0, nb1, nbb, Nat.reduceLT]
      · have f' := f35 q1.2.1 (v := 0)
        obtain ⟨mw', my'⟩ := mod_WY hW (Im := va_up Im 56 (upd (Im 56) 35 0)) f' q1.2.2.2.1 q1.2.2.2.2.1
        exact m_say_go hR hb (fun Q => m_goesBy_1 hR mw' my' hb (by rw [f' 64 (by decide) (by decide)]; exact c0) g1 (by rw [f' 65 (by decide) (by decide)]; exact g2) (by rw [cl t f']; exact g3))
    · have hd : ∀ {Im : Nat → Nat → Int32}, (∀ c, 57 ≤ c → c ≤ 77 → Im c = I c) → Im 65 (4 * y + b) = -4 ∨ ∃ k, k < nt ∧ Im 65 (4 * y + b) = nI k ∧ mcl Im k = false := fun {Im} f => by
        rw [f 65 (by decide) (by decide)]
        rcases hW.1.2.1.2.2.2 (4 * y + b) (by omega) with q | ⟨t, g1, g2⟩
        · exact Or.inl q
        · refine Or.inr ⟨t, g1, g2, ?_⟩
          rw [cl t f]
          cases g : mcl I t with
          | false => rfl
          | true => exact absurd ⟨t, g1, g2, g⟩ c1
      obtain ⟨r, hr, er⟩ := (hW.1.2.1.2.2.1 (4 * y + b) (by omega)).resolve_left c0
      obtain ⟨I1, I3, k1, t1, hq⟩ := c_go_2 (E := E) (J := J) hR hW0 hG0.2.1 hG0.1 hG0.2.2.1.1 hG0.2.2.1.2.1 hb (by rw [e64]; exact c0) (hd hq0.2.1)
      rw [e64, er] at t1
      refine br_done hR hh hW hG hD b1 b2 k1 (B := va_up I1 21 (upd (I1 21) 5 (nI r))) (fun c g1 g2 => by rw [vu, if_neg g1]) t1 (fun Q => ?_) (fun Im _ f f56 => ?_)
      · rw [sw Q, hq]
        simp only [e_135_62, e_136_95, va_rf_some, push_s, push_n, nb0, nb1, nbb, Nat.reduceLT]
      · have f' := f35 f (v := 0)
        obtain ⟨mw', my'⟩ := mod_WY hW (Im := va_up Im 56 (upd (Im 56) 35 0)) f' f56.2.1 f56.2.2
        have hm := fun {Q} => m_goesBy_2 (E := E) (Q := Q) (J := J) hR mw' my' hG.1 (show va_up Im 56 (upd (Im 56) 35 0) 56 1 = nI u from f56.1.trans hG.2.2.1.2.2) hb (by rw [f' 64 (by decide) (by decide)]; exact c0) (hd f')
        rw [f' 64 (by decide) (by decide), er] at hm
        refine ⟨_, r, pl, ?_, ?_, fun Q => m_say_go hR hb (fun Q => hm)⟩
        · intro q q1 q2
          rw [ud, if_neg (by omega), f' 57 (by decide) (by decide)]
        · refine act_you hh hW0 (hsm_3 _ _ _ _) hr (fun t ht => ?_) (fun k k1' k2 => ?_) (fun t ht => rfl) (fun q hq' => ?_)
          · show I1 22 t = _
            rw [k1.1 22 (by decide) (by omega) (by omega) (by omega)]
          · show upd (I1 21) 5 _ k = _
            rw [ud, k1.1 21 (by decide) (by omega) (by omega) (by omega)]
          · show upd (mmind _ u) 48 _ q = _
            rw [ud, f' 57 (by decide) (by decide), mmind_lo _ hq', hq0.2.1 57 (by decide) (by decide)]
end H5
