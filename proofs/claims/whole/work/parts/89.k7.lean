/-! ===== lay ===== -/
section K7
variable {E : tm_Env} {I I' I1 K M : Nat → Nat → Int32} {J : Nat → Nat → Int64} {R : Nat → Nat → Option Nat} {h d nr nt n p : Nat} {tc pp : Nat → Nat}
theorem rds_lt : ∀ f (M : Nat → Nat → Int32) nr nt p b M' nr' nt', rds n tc f M nr nt p = (some b, M', nr', nt') → b < n
  | 0, M, nr, nt, p, b, M', nr', nt', he => by cases he
  | f + 1, M, nr, nt, p, b, M', nr', nt', he => by
    rw [rds] at he
    by_cases c : p < n
    · rw [if_pos c] at he
      cases hm : itm M n tc nr nt p with
      | none =>
        rw [hm] at he
        cases he
        exact c
      | some w =>
        obtain ⟨M2, a, b2, q⟩ := w
        rw [hm] at he
        exact rds_lt f M2 a b2 q b M' nr' nt' he
    · rw [if_neg c] at he
      cases he
theorem DR_hr (hD : DR M I d nr nt pp) : DR (hr M n) I d nr nt pp := by
  unfold DR dB cB at *
  rw [hr_c69, hr_c70, hr_c71, hr_c72, hr_c73, hr_c74, hr_c75, hr_c76, hr_c77, hr_k28]
  exact hD
theorem st_lay (g : GOOD I J R) : STEP E 69 [.ref 0] 62 [.ref 56, tm_dum] I J R := by
  obtain ⟨h, d, nr, nt, hR, ⟨hI, n, tc, hT⟩, hJ⟩ := g
  have dd := hR.2.2.1
  have d2 := dd_of hR
  have hn := hT.2.2.1
  rcases hrd : rds n tc (n + 1) (rd0 I) 0 0 0 with ⟨r, M', nr', nt'⟩
  cases r with
  | some b =>
    obtain ⟨I1, f, st⟩ := c_readHouse_0 (E := E) (J := J) hR hT.2 (fun k hk => rd0_76 hk) rfl rd0_I hrd
    have hb := rds_lt _ _ _ _ _ _ _ _ _ hrd
    have ew : I1 = Wc I1 I := Wc_eq (fun c hc => f c (by omega) (by omega))
    have hT1 : TX I1 n tc := by
      unfold TX
      rw [f 56 (by decide) (by omega), f 66 (by decide) (by omega)]
      exact hT.1
    have hr1 : rds n tc (n + 1) (rd0 I1) 0 0 0 = (some b, Wc I1 M', nr', nt') := by
      rw [ew, rd0_W, rds_W, hrd, ← ew]
    obtain ⟨I2, f2, mf⟩ := m_lay_0 (E := E) (J := J) hR hT1 hr1 (by omega)
    have e4 : (nI b = -4) = False := eq_false (nI_n4 (by omega))
    refine ⟨-2, I1, R, I2, fun Q => ?_, mf, good_frH hR (frH_of dd f f2) ⟨hI, n, tc, hT⟩ hJ⟩
    simp only [e_69_0, e_69_1, e_69_4, e_69_7, e_69_9, e_69_12, e_69_13, e_69_16, e_69_19, e_69_22, e_69_25, e_69_27, rf_0_0 hR, rf_0_1 hR, rf_0_2 hR, rf_0_3 hR, rf_0_4 hR, rf_0_5 hR, rf_0_6 hR, rf_1_0 hR, rf_3_0 hR, rf_3_2 hR, rf_4_3 hR, rf_4_4 hR, rf_4_5 hR, rf_4_6 hR, rf_4_7 hR, rf_4_8 hR, rf_4_9 hR, rf_12_1 hR, rf_13_3 hR, rf_13_4 hR, rf_13_5 hR, rf_13_6 hR, rf_13_7 hR, rf_13_8 hR, rf_13_9 hR, rf_21_0 hR, rf_21_1 hR, rf_24_0 hR, rf_25_0 hR, rf_26_0 hR, rf_26_1 hR, rf_26_2 hR, rf_26_3 hR, rf_26_4 hR, rf_26_5 hR, rf_26_6 hR, rf_26_7 hR, rf_27_0 hR, rf_27_1 hR, rf_30_0 hR, rf_30_1 hR, rf_33_0 hR, rf_33_1 hR, rf_36_0 hR, rf_36_1 hR, rf_39_0 hR, rf_39_1 hR, rf_42_0 hR, rf_42_1 hR, rf_45_0 hR, rf_45_1 hR, rf_48_0 hR, rf_48_1 hR, rf_51_0 hR, rf_51_1 hR, rf_51_6 hR, rf_51_7 hR, rf_h_3 hR, rf_d_3 hR, rf_h_4 hR, rf_d_4 hR, rf_h_5 hR, rf_d_5 hR, rf_h_6 hR, rf_d_6 hR, rf_h_7 hR, rf_d_7 hR, rf_h_8 hR, rf_d_8 hR, rf_h_9 hR, rf_d_9 hR, rf_12_0 hR, rf_3_1 hR, kn_0, kn_1, kn_2, kn_3, kn_4, kn_5, kn_6, kn_7, kn_8, kn_9, kn_10, kn_11, kn_12, kn_13, kn_14, kn_15, kn_16, kn_17, kn_18, kn_19, kn_20, kn_21, kn_22, kn_23, kn_24, kn_25, kn_26, kn_27, kn_28, kn_29, kn_30, kn_31, kn_32, kn_33, kn_34, kn_35, kn_36, kn_37, kn_38, kn_39, kn_40, kn_41, kn_42, kn_43, kn_44, kn_45, kn_46, kn_47, kn_48, kn_49, kn_50, kn_51, kn_52, kn_53, kn_54, kn_55, ln_2, ln_5, ln_6, ln_7, ln_8, ln_9, ln_10, ln_11, ln_14, ln_15, ln_16, ln_17, ln_18, ln_19, ln_20, ln_22, ln_23, ln_26, ln_28, ln_29, ln_31, ln_32, ln_34, ln_35, ln_37, ln_38, ln_40, ln_41, ln_43, ln_44, ln_46, ln_47, ln_49, ln_50, ln_52, kn_h hR, lt_h hR, kn_h1 hR, ln_h1 hR, lt_h1 hR, kn_h2 hR, ln_h2 hR, lt_h2 hR, kn_h3 hR, ln_h3 hR, lt_h3 hR, kn_h4 hR, ln_h4 hR, lt_h4 hR, kn_h5 hR, ln_h5 hR, lt_h5 hR, kn_h6 hR, ln_h6 hR, lt_h6 hR, kn_h7 hR, ln_h7 hR, lt_h7 hR, kn_d hR, lt_d hR, kn_d1 hR, ln_d1 hR, lt_d1 hR, kn_d2 hR, ln_d2 hR, lt_d2 hR, kn_d3 hR, ln_d3 hR, lt_d3 hR, kn_d4 hR, ln_d4 hR, lt_d4 hR, kn_d5 hR, ln_d5 hR, lt_d5 hR, kn_d6 hR, ln_d6 hR, lt_d6 hR, kn_d7 hR, ln_d7 hR, lt_d7 hR, va_rf_some, push_s, push_n, nb0, nb1, nbb, Nat.reduceLT, st, e4, if_false]
  | none =>
    obtain ⟨I1, pp', f, hD, st⟩ := c_readHouse_1 (E := E) (J := J) hR hT.2 (fun k hk => rd0_76 hk) rfl rd0_I hrd
    rcases Nat.eq_zero_or_pos nr' with z | z
    · subst z
      have ew : I1 = Wc I1 I := Wc_eq (fun c hc => f c (by omega) (by omega))
      have hT1 : TX I1 n tc := by
        unfold TX
        rw [f 56 (by decide) (by omega), f 66 (by decide) (by omega)]
        exact hT.1
      have hr1 : rds n tc (n + 1) (rd0 I1) 0 0 0 = (none, Wc I1 M', 0, nt') := by
        rw [ew, rd0_W, rds_W, hrd, ← ew]
      have fM := (m_rds_1 (E := E) (J := J) hR (n + 1) (rd0 I1) 0 0 0 (by omega) (by omega) (TX_fr (frM_rd0 I1) hT1) rd0_I _ _ _ hr1).1.2
      refine ⟨-2, I1, R, hr (Wc I1 M') n, fun Q => ?_, fun Q => m_lay_1 hR hT1 hr1, good_frH hR (frH_of dd f (frM_hr (frM_trans (frM_rd0 I1) fM))) ⟨hI, n, tc, hT⟩ hJ⟩
      have e0 : I1 d 0 = 0 := hD.1.1
      simp only [e_69_0, e_69_1, e_69_4, e_69_7, e_69_9, e_69_12, e_69_13, e_69_16, e_69_19, e_69_22, e_69_25, e_69_27, rf_0_0 hR, rf_0_1 hR, rf_0_2 hR, rf_0_3 hR, rf_0_4 hR, rf_0_5 hR, rf_0_6 hR, rf_1_0 hR, rf_3_0 hR, rf_3_2 hR, rf_4_3 hR, rf_4_4 hR, rf_4_5 hR, rf_4_6 hR, rf_4_7 hR, rf_4_8 hR, rf_4_9 hR, rf_12_1 hR, rf_13_3 hR, rf_13_4 hR, rf_13_5 hR, rf_13_6 hR, rf_13_7 hR, rf_13_8 hR, rf_13_9 hR, rf_21_0 hR, rf_21_1 hR, rf_24_0 hR, rf_25_0 hR, rf_26_0 hR, rf_26_1 hR, rf_26_2 hR, rf_26_3 hR, rf_26_4 hR, rf_26_5 hR, rf_26_6 hR, rf_26_7 hR, rf_27_0 hR, rf_27_1 hR, rf_30_0 hR, rf_30_1 hR, rf_33_0 hR, rf_33_1 hR, rf_36_0 hR, rf_36_1 hR, rf_39_0 hR, rf_39_1 hR, rf_42_0 hR, rf_42_1 hR, rf_45_0 hR, rf_45_1 hR, rf_48_0 hR, rf_48_1 hR, rf_51_0 hR, rf_51_1 hR, rf_51_6 hR, rf_51_7 hR, rf_h_3 hR, rf_d_3 hR, rf_h_4 hR, rf_d_4 hR, rf_h_5 hR, rf_d_5 hR, rf_h_6 hR, rf_d_6 hR, rf_h_7 hR, rf_d_7 hR, rf_h_8 hR, rf_d_8 hR, rf_h_9 hR, rf_d_9 hR, rf_12_0 hR, rf_3_1 hR, kn_0, kn_1, kn_2, kn_3, kn_4, kn_5, kn_6, kn_7, kn_8, kn_9, kn_10, kn_11, kn_12, kn_13, kn_14, kn_15, kn_16, kn_17, kn_18, kn_19, kn_20, kn_21, kn_22, kn_23, kn_24, kn_25, kn_26, kn_27, kn_28, kn_29, kn_30, kn_31, kn_32, kn_33, kn_34, kn_35, kn_36, kn_37, kn_38, kn_39, kn_40, kn_41, kn_42, kn_43, kn_44, kn_45, kn_46, kn_47, kn_48, kn_49, kn_50, kn_51, kn_52, kn_53, kn_54, kn_55, ln_2, ln_5, ln_6, ln_7, ln_8, ln_9, ln_10, ln_11, ln_14, ln_15, ln_16, ln_17, ln_18, ln_19, ln_20, ln_22, ln_23, ln_26, ln_28, ln_29, ln_31, ln_32, ln_34, ln_35, ln_37, ln_38, ln_40, ln_41, ln_43, ln_44, ln_46, ln_47, ln_49, ln_50, ln_52, kn_h hR, lt_h hR, kn_h1 hR, ln_h1 hR, lt_h1 hR, kn_h2 hR, ln_h2 hR, lt_h2 hR, kn_h3 hR, ln_h3 hR, lt_h3 hR, kn_h4 hR, ln_h4 hR, lt_h4 hR, kn_h5 hR, ln_h5 hR, lt_h5 hR, kn_h6 hR, ln_h6 hR, lt_h6 hR, kn_h7 hR, ln_h7 hR, lt_h7 hR, kn_d hR, lt_d hR, kn_d1 hR, ln_d1 hR, lt_d1 hR, kn_d2 hR, ln_d2 hR, lt_d2 hR, kn_d3 hR, ln_d3 hR, lt_d3 hR, kn_d4 hR, ln_d4 hR, lt_d4 hR, kn_d5 hR, ln_d5 hR, lt_d5 hR, kn_d6 hR, ln_d6 hR, lt_d6 hR, kn_d7 hR, ln_d7 hR, lt_d7 hR, va_rf_some, push_s, push_n, nb0, nb1, nbb, Nat.reduceLT, st, e0, if_true]
    · have hR2 := swp_ref hR
      obtain ⟨I2, b1, b2, b3, b4, sb⟩ := c_begin_b (E := E) (J := J) (I := I1) (l1 := .ref h) hR2
      have hi : ∀ c, 56 ≤ c → I2 c = I c := fun c hc => by rw [b1 c (by omega) (by omega) (by omega) (by omega) (by omega), f c (by omega) (by omega)]
      have ew : I2 = Wc I2 I := Wc_eq hi
      have hT2 : TX I2 n tc := by
        unfold TX
        rw [hi 56 (by decide), hi 66 (by decide)]
        exact hT.1
      have hr2 : rds n tc (n + 1) (rd0 I2) 0 0 0 = (none, Wc I2 M', nr', nt') := by
        rw [ew, rd0_W, rds_W, hrd, ← ew]
      have fM := (m_rds_1 (E := E) (J := J) hR2 (n + 1) (rd0 I2) 0 0 0 (by omega) (by omega) (TX_fr (frM_rd0 I2) hT2) rd0_I _ _ _ hr2).1.2
      have fK : frM I2 (hr (Wc I2 M') n) := frM_hr (frM_trans (frM_rd0 I2) fM)
      have lo : ∀ c, c < 56 → hr (Wc I2 M') n c = I2 c := fun c hc => fK.1 c (by omega) (by omega)
      have hD1 : DR (hr (Wc I2 M') n) I1 d nr' nt' pp' := DR_hr (DR_W hD)
      have hRW : RW (laid (hr (Wc I2 M') n) nr' nt') d nr' nt' 0 pp' := by
        refine lay_RW d2 hD1 z (fun c c1 c2 c3 c4 c5 c6 => ?_) (fun k hk => ?_) ?_
        · rw [lo c c1, b1 c c2 c3 c4 c5 c6]
        · rw [lo 22 (by decide), lo 23 (by decide)]
          exact b2 k hk
        · rw [lo 21 (by decide)]
          exact b3
      obtain ⟨⟨y, pl, u, nx, aa, k, hW, hG, hDB⟩, -⟩ : INV I h nr nt := ⟨hI, n, tc, hT⟩
      have m1 := fun {Q} => m_lay_2 (E := E) (Q := Q) (J := J) hR2 hT2 hr2 z
      have k13 : hr (Wc I2 M') n 56 13 = I 56 13 := by rw [fK.2 13 (by decide) (by decide) (by decide) (by decide), hi 56 (by decide)]
      have k36 : hr (Wc I2 M') n 56 36 = I 56 36 := by rw [fK.2 36 (by decide) (by decide) (by decide) (by decide), hi 56 (by decide)]
      have x25 : laid (hr (Wc I2 M') n) nr' nt' 25 = I2 25 := by rw [ld_x (by decide), lo 25 (by decide)]
      have x55 : laid (hr (Wc I2 M') n) nr' nt' 55 = I2 55 := by rw [ld_x (by decide), lo 55 (by decide)]
      have x1 : laid (hr (Wc I2 M') n) nr' nt' 1 = I 1 := by rw [ld_x (by decide), lo 1 (by decide), b1 1 (by decide) (by decide) (by decide) (by decide) (by decide), f 1 (by decide) (by omega)]
      have x2 : laid (hr (Wc I2 M') n) nr' nt' 2 = I 2 := by rw [ld_x (by decide), lo 2 (by decide), b1 2 (by decide) (by decide) (by decide) (by decide) (by decide), f 2 (by decide) (by omega)]
      have x66 : laid (hr (Wc I2 M') n) nr' nt' 66 = I 66 := by rw [ld_x (by decide), fK.1 66 (by decide) (by decide), hi 66 (by decide)]
      refine ⟨nI nr', I2, swp R h d, _, fun Q => ?_, fun Q => m1, d, h, nr', nt', hR2, ⟨⟨0, pp', 0, nx, aa, 0, hRW, ⟨by decide, hG.2.1, ⟨?_, ?_, rfl⟩, fun j j1 j2 => absurd j2 (by omega)⟩, DB_0 hDB.1.2 ?_ rfl ?_⟩, n, tc, ?_, ?_⟩, hJ⟩
      · have e0 : I1 d 0 = nI nr' := hD.1.1
        have ne : (nI nr' = 0) = False := eq_false (nI_ne0 z (by have := hD.1.2.2.1; omega))
        have e2 : I2 d 0 = nI nr' := by rw [b1 d (by omega) (by omega) (by omega) (by omega) (by omega), e0]
        have ba := fun {Q} => c_begin_a (E := E) (Q := Q) (I := I1) (J := J) hR
        have le := fun {Q} => c_lay_end (E := E) (Q := Q) (I := I2) (J := J) hR2
        simp only [e_69_0, e_69_1, e_69_4, e_69_7, e_69_9, e_69_12, e_69_13, e_69_16, e_69_19, e_69_22, e_69_25, e_69_27, e_69_28, e_69_29, rf_0_0 hR, rf_0_1 hR, rf_0_2 hR, rf_0_3 hR, rf_0_4 hR, rf_0_5 hR, rf_0_6 hR, rf_1_0 hR, rf_3_0 hR, rf_3_2 hR, rf_4_3 hR, rf_4_4 hR, rf_4_5 hR, rf_4_6 hR, rf_4_7 hR, rf_4_8 hR, rf_4_9 hR, rf_12_1 hR, rf_13_3 hR, rf_13_4 hR, rf_13_5 hR, rf_13_6 hR, rf_13_7 hR, rf_13_8 hR, rf_13_9 hR, rf_21_0 hR, rf_21_1 hR, rf_24_0 hR, rf_25_0 hR, rf_26_0 hR, rf_26_1 hR, rf_26_2 hR, rf_26_3 hR, rf_26_4 hR, rf_26_5 hR, rf_26_6 hR, rf_26_7 hR, rf_27_0 hR, rf_27_1 hR, rf_30_0 hR, rf_30_1 hR, rf_33_0 hR, rf_33_1 hR, rf_36_0 hR, rf_36_1 hR, rf_39_0 hR, rf_39_1 hR, rf_42_0 hR, rf_42_1 hR, rf_45_0 hR, rf_45_1 hR, rf_48_0 hR, rf_48_1 hR, rf_51_0 hR, rf_51_1 hR, rf_51_6 hR, rf_51_7 hR, rf_h_3 hR, rf_d_3 hR, rf_h_4 hR, rf_d_4 hR, rf_h_5 hR, rf_d_5 hR, rf_h_6 hR, rf_d_6 hR, rf_h_7 hR, rf_d_7 hR, rf_h_8 hR, rf_d_8 hR, rf_h_9 hR, rf_d_9 hR, rf_12_0 hR, rf_3_1 hR, kn_0, kn_1, kn_2, kn_3, kn_4, kn_5, kn_6, kn_7, kn_8, kn_9, kn_10, kn_11, kn_12, kn_13, kn_14, kn_15, kn_16, kn_17, kn_18, kn_19, kn_20, kn_21, kn_22, kn_23, kn_24, kn_25, kn_26, kn_27, kn_28, kn_29, kn_30, kn_31, kn_32, kn_33, kn_34, kn_35, kn_36, kn_37, kn_38, kn_39, kn_40, kn_41, kn_42, kn_43, kn_44, kn_45, kn_46, kn_47, kn_48, kn_49, kn_50, kn_51, kn_52, kn_53, kn_54, kn_55, ln_2, ln_5, ln_6, ln_7, ln_8, ln_9, ln_10, ln_11, ln_14, ln_15, ln_16, ln_17, ln_18, ln_19, ln_20, ln_22, ln_23, ln_26, ln_28, ln_29, ln_31, ln_32, ln_34, ln_35, ln_37, ln_38, ln_40, ln_41, ln_43, ln_44, ln_46, ln_47, ln_49, ln_50, ln_52, kn_h hR, lt_h hR, kn_h1 hR, ln_h1 hR, lt_h1 hR, kn_h2 hR, ln_h2 hR, lt_h2 hR, kn_h3 hR, ln_h3 hR, lt_h3 hR, kn_h4 hR, ln_h4 hR, lt_h4 hR, kn_h5 hR, ln_h5 hR, lt_h5 hR, kn_h6 hR, ln_h6 hR, lt_h6 hR, kn_h7 hR, ln_h7 hR, lt_h7 hR, kn_d hR, lt_d hR, kn_d1 hR, ln_d1 hR, lt_d1 hR, kn_d2 hR, ln_d2 hR, lt_d2 hR, kn_d3 hR, ln_d3 hR, lt_d3 hR, kn_d4 hR, ln_d4 hR, lt_d4 hR, kn_d5 hR, ln_d5 hR, lt_d5 hR, kn_d6 hR, ln_d6 hR, lt_d6 hR, kn_d7 hR, ln_d7 hR, lt_d7 hR, va_rf_some, push_s, push_n, nb0, nb1, nbb, Nat.reduceLT, st, e0, ne, if_true, if_false, ba, sb, le, e2]
      · rw [x25, b4.1, f 25 (by decide) (by omega)]
        exact hG.2.2.1.1
      · rw [x25]
        exact b4.2.1
      · rw [x55]
        exact b4.2.2
      · exact k36.trans hDB.2.1.2.2
      · have e13 : laid (hr (Wc I2 M') n) nr' nt' 56 13 = hr (Wc I2 M') n 56 13 := rfl
        unfold TX
        rw [x66, e13, k13]
        exact hT.1
      · unfold TXc
        rw [x1, x2]
        exact hT.2
end K7
