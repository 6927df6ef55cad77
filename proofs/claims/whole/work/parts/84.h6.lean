/-! ===== class and model: what is said ===== -/
def le20 (x : Nat) : Prop := x ≤ 20 ∨ x = 99
theorem o1_20 (c : Nat) (wn : Nat → Nat) (a : Nat) {k : Nat} (h : k < 12) : le20 (o1C c wn a k) := by
  unfold o1C le20
  split <;> omega
theorem t2_20 (c : Nat) (wn : Nat → Nat) {k : Nat} (h : k < 12) : le20 (t2C c wn k) := by
  unfold t2C le20
  split <;> omega
theorem go_20 (c : Nat) (wn : Nat → Nat) (k a : Nat) : le20 (goC c wn k a) := by
  unfold goC le20
  split <;> omega
theorem sen_20 (c : Nat) (wn : Nat → Nat) (db : Nat) : le20 (senC c wn db) := by
  have htk : le20 (tkC c wn) := by
    unfold tkC le20
    split
    · split <;> omega
    · split
      · split
        · omega
        · split <;> omega
      · omega
  have hdp : le20 (dpC c wn) := by
    unfold dpC
    split
    · unfold le20
      split <;> omega
    · exact o1_20 c wn 1 (by decide)
  have hpt : le20 (ptC c wn) := by
    unfold ptC le20
    split
    · omega
    · split <;> omega
  have hlk : le20 (lkC c wn) := by
    unfold lkC
    split
    · exact Or.inl (by decide)
    · split
      · exact o1_20 c wn 2 (by decide)
      · exact Or.inr rfl
  have han : le20 (anC c wn db) := by
    unfold anC le20
    split <;> omega
  unfold senC
  by_cases w0 : wo c wn 0 = 20
  · rw [if_pos w0]; exact htk
  rw [if_neg w0]
  by_cases w1 : wo c wn 0 = 21
  · rw [if_pos w1]; exact hdp
  rw [if_neg w1]
  by_cases w2 : wo c wn 0 = 22
  · rw [if_pos w2]; exact hpt
  rw [if_neg w2]
  by_cases w3 : wo c wn 0 = 23
  · rw [if_pos w3]; exact o1_20 c wn 1 (by decide)
  rw [if_neg w3]
  by_cases w4 : wo c wn 0 = 24
  · rw [if_pos w4]; exact o1_20 c wn 1 (by decide)
  rw [if_neg w4]
  by_cases w5 : wo c wn 0 = 25
  · rw [if_pos w5]; exact t2_20 c wn (by decide)
  rw [if_neg w5]
  by_cases w6 : wo c wn 0 = 26
  · rw [if_pos w6]; exact t2_20 c wn (by decide)
  rw [if_neg w6]
  by_cases w7 : wo c wn 0 = 27
  · rw [if_pos w7]; exact o1_20 c wn 1 (by decide)
  rw [if_neg w7]
  by_cases w8 : wo c wn 0 = 28
  · rw [if_pos w8]; exact o1_20 c wn 1 (by decide)
  rw [if_neg w8]
  by_cases w9 : wo c wn 0 = 29
  · rw [if_pos w9]; exact go_20 c wn 1 2
  rw [if_neg w9]
  by_cases w10 : wo c wn 0 = 30
  · rw [if_pos w10]; exact hlk
  rw [if_neg w10]
  by_cases w11 : wo c wn 0 = 31
  · rw [if_pos w11]
    unfold le20
    split <;> omega
  rw [if_neg w11]
  by_cases w12 : 39 ≤ wo c wn 0 ∧ wo c wn 0 ≤ 42
  · rw [if_pos w12]; exact go_20 c wn 0 1
  rw [if_neg w12]
  exact han
section H6
variable {E : tm_Env} {Q : Option Int32 → tm_St → Prop} {I Ib : Nat → Nat → Int32} {J : Nat → Nat → Int64} {R : Nat → Nat → Option Nat} {h d : Nat} {nr nt y u nx a k c code n : Nat} {pl : Nat → Nat} {wn tc : Nat → Nat}
theorem br_act (hR : tRef h d R) (hh : h = 4 ∨ h = 13) (hW : RW I h nr nt y pl) (hG : RNG I h nr nt u nx) (b1 : ∀ c, c < 51 → Ib c = I c) (b2 : ∀ c, 55 ≤ c → Ib c = I c) (hc : code < 12) (hp : PAR Ib c wn code) : BRC E J R I Ib h nr nt c wn code := by
  have hq0 : frQ I (va_up Ib 55 (upd (Ib 55) 0 0)) := frQ_trans (frQ_b b1 b2) (frQ_55 Ib _)
  have hW0 := frQ_W hh hq0 hW
  have hG0 := frQ_G hh hq0 hG
  have h16 := RR_16 hW.1
  obtain ⟨p4, p53, p54⟩ := hp.1 hc
  have e4 : va_up Ib 55 (upd (Ib 55) 0 0) 51 4 = nI code := p4
  have c53 : CPH (va_up Ib 55 (upd (Ib 55) 0 0)) 53 c wn (senA c wn) := p53
  have c54 : of2 code = true → CPH (va_up Ib 55 (upd (Ib 55) 0 0)) 54 c wn (phP c wn (senA c wn) + 1) := p54
  have fp := fun {Q} => c_fitPhrases (E := E) (Q := Q) (J := J) hR hW0 hc e4
  have ek : knd code = 1 := knd_lt hc
  generalize hI0 : va_up Ib 55 (upd (Ib 55) 0 0) = I0 at *
  have i55 : I0 55 0 = 0 := by rw [← hI0]; rfl
  have hi0 : ∀ c, 56 ≤ c → I0 c = I c := fun c hc => by
    rw [← hI0, vu, if_neg (by omega)]
    exact b2 c (by omega)
  generalize hp0 : (fun t => cph I0 53 t && mseen I0 pl nt y t) = q0 at fp
  generalize hp1 : (fun t => cph I0 54 t && mseen I0 pl nt y t) = q1 at fp
  have sw : ∀ Q, tEv E 136 35 [.ref 0, .int (knd code)] [] (mS Ib J R) Q = if (anyb q0 nt && (!(of2 code) || anyb q1 nt)) = true then tEv E 119 0 [.ref 0, tm_dum, tm_dum, tm_dum, tm_dum] [] (mS (fpd I0 code (so q0 nt) (if of2 code = true then so q1 nt else 1)) J R) (fun r S2 => tEv E 136 85 [.ref 0, .int 1] (tm_push r []) (S2.1, (0, 0)) Q) else Q (some 3) (mS (fpd I0 code (so q0 nt) (if of2 code = true then so q1 nt else 1)) J R) := fun Q => by
    simp only [e_136_35, e_136_36, e_136_39, e_136_40, e_136_41, e_136_42, e_136_43, e_136_46, e_136_47, e_136_50, e_136_53, e_136_54, e_136_57, e_136_60, e_136_61, e_136_62, e_136_63, e_136_66, e_136_69, e_136_70, e_136_71, e_136_74, e_136_75, e_136_78, e_136_81, e_136_82, e_136_88, e_136_89, rf_0_0 hR, rf_0_1 hR, rf_0_2 hR, rf_0_3 hR, rf_0_4 hR, rf_0_5 hR, rf_0_6 hR, rf_1_0 hR, rf_3_0 hR, rf_3_2 hR, rf_4_3 hR, rf_4_4 hR, rf_4_5 hR, rf_4_6 hR, rf_4_7 hR, rf_4_8 hR, rf_4_9 hR, rf_12_1 hR, rf_13_3 hR, rf_13_4 hR, rf_13_5 hR, rf_13_6 hR, rf_13_7 hR, rf_13_8 hR, rf_13_9 hR, rf_21_0 hR, rf_21_1 hR, rf_24_0 hR, rf_25_0 hR, rf_26_0 hR, rf_26_1 hR, rf_26_2 hR, rf_26_3 hR, rf_26_4 hR, rf_26_5 hR, rf_26_6 hR, rf_26_7 hR, rf_27_0 hR, rf_27_1 hR, rf_30_0 hR, rf_30_1 hR, rf_33_0 hR, rf_33_1 hR, rf_36_0 hR, rf_36_1 hR, rf_39_0 hR, rf_39_1 hR, rf_42_0 hR, rf_42_1 hR, rf_45_0 hR, rf_45_1 hR, rf_48_0 hR, rf_48_1 hR, rf_51_0 hR, rf_51_1 hR, rf_51_6 hR, rf_51_7 hR, rf_h_3 hR, rf_d_3 hR, rf_h_4 hR, rf_d_4 hR, rf_h_5 hR, rf_d_5 hR, rf_h_6 hR, rf_d_6 hR, rf_h_7 hR, rf_d_7 hR, rf_h_8 hR, rf_d_8 hR, rf_h_9 hR, rf_d_9 hR, rf_12_0 hR, rf_3_1 hR, kn_0, kn_1, kn_2, kn_3, kn_4, kn_5, kn_6, kn_7, kn_8, kn_9, kn_10, kn_11, kn_12, kn_13, kn_14, kn_15, kn_16, kn_17, kn_18, kn_19, kn_20, kn_21, kn_22, kn_23, kn_24, kn_25, kn_26, kn_27, kn_28, kn_29, kn_30, kn_31, kn_32, kn_33, kn_34, kn_35, kn_36, kn_37, kn_38, kn_39, kn_40, kn_41, kn_42, kn_43, kn_44, kn_45, kn_46, kn_47, kn_48, kn_49, kn_50, kn_51, kn_52, kn_53, kn_54, kn_55, ln_2, ln_5, ln_6, ln_7, ln_8, ln_9, ln_10, ln_11, ln_14, ln_15, ln_16, ln_17, ln_18, ln_19, ln_20, ln_22, ln_23, ln_26, ln_28, ln_29, ln_31, ln_32, ln_34, ln_35, ln_37, ln_38, ln_40, ln_41, ln_43, ln_44, ln_46, ln_47, ln_49, ln_50, ln_52, kn_h hR, lt_h hR, kn_h1 hR, ln_h1 hR, lt_h1 hR, kn_h2 hR, ln_h2 hR, lt_h2 hR, kn_h3 hR, ln_h3 hR, lt_h3 hR, kn_h4 hR, ln_h4 hR, lt_h4 hR, kn_h5 hR, ln_h5 hR, lt_h5 hR, kn_h6 hR, ln_h6 hR, lt_h6 hR, kn_h7 hR, ln_h7 hR, lt_h7 hR, kn_d hR, lt_d hR, kn_d1 hR, ln_d1 hR, lt_d1 hR, kn_d2 hR, ln_d2 hR, lt_d2 hR, kn_d3 hR, ln_d3 hR, lt_d3 hR, kn_d4 hR, ln_d4 hR, lt_d4 hR, kn_d5 hR, ln_d5 hR, lt_d5 hR, kn_d6 hR, ln_d6 hR, lt_d6 hR, kn_d7 hR, ln_d7 hR, lt_d7 hR, va_rf_some, push_s, push_n, nb0, nb1, nbb, Nat.reduceLT, ek, show ((1 : Int32) = 0) = False from eq_false (by decide), show ((1 : Int32) = 2) = False from eq_false (by decide), if_true, if_false, c_dend hR, hI0, fp, b2i_0]
    cases (anyb q0 nt && (!(of2 code) || anyb q1 nt)) <;> rfl
  have fpQ : ∀ F0 F1, frQ I0 (fpd I0 code F0 F1) := fun F0 F1 => frQ_55 I0 _
  have fp55 : ∀ F0 F1 : Int32, fpd I0 code F0 F1 55 0 = 0 := fun F0 F1 => i55
  have fphi : ∀ F0 F1 : Int32, ∀ c, 56 ≤ c → fpd I0 code F0 F1 c = I c := fun F0 F1 c hc => by
    unfold fpd
    rw [vu, if_neg (by omega), hi0 c hc]
  have fits : ∀ {Im : Nat → Nat → Int32}, (∀ c, 57 ≤ c → c ≤ 77 → Im c = I c) → SEN Im c wn code → mfit (va_up Im 56 (upd (Im 56) 35 0)) pl nt y 0 = q0 ∧ (of2 code = true → mfit (va_up Im 56 (upd (Im 56) 35 0)) pl nt y 1 = q1) := fun {Im} f hs => by
    have f' := f35 f (v := 0)
    obtain ⟨s0, s1⟩ := hs.1 hc
    have g : ∀ c, 57 ≤ c → c ≤ 77 → va_up Im 56 (upd (Im 56) 35 0) c = I0 c := fun c c1 c2 => by rw [f' c c1 c2, hi0 c (by omega)]
    constructor
    · rw [← hp0]
      funext t
      unfold mfit
      rw [mseen_same (g 57 (by decide) (by decide)) (g 58 (by decide) (by decide)) (g 62 (by decide) (by decide)) (g 65 (by decide) (by decide)) t, fit_eq (kk := 0) c53 (Im := va_up Im 56 (upd (Im 56) 35 0)) s0 (g 57 (by decide) (by decide)) (g 59 (by decide) (by decide)) (g 60 (by decide) (by decide))]
    · intro o2
      rw [← hp1]
      funext t
      unfold mfit
      rw [mseen_same (g 57 (by decide) (by decide)) (g 58 (by decide) (by decide)) (g 62 (by decide) (by decide)) (g 65 (by decide) (by decide)) t, fit_eq (kk := 1) (c54 o2) (Im := va_up Im 56 (upd (Im 56) 35 0)) (s1 o2) (g 57 (by decide) (by decide)) (g 59 (by decide) (by decide)) (g 60 (by decide) (by decide))]
  by_cases n0 : anyb q0 nt = true
  · by_cases n1 : of2 code = true → anyb q1 nt = true
    · have hall : (anyb q0 nt && (!(of2 code) || anyb q1 nt)) = true := by
        rw [n0, Bool.true_and]
        cases o2 : of2 code with
        | false => rfl
        | true => rw [n1 o2]; rfl
      have hWf := frQ_W hh (fpQ (so q0 nt) (if of2 code = true then so q1 nt else 1)) hW0
      have hGf := frQ_G hh (fpQ (so q0 nt) (if of2 code = true then so q1 nt else 1)) hG0
      obtain ⟨v, I1, s1, s2, s3, s4⟩ := settle_ok (E := E) (J := J) (f0 := so q0 nt) (f1 := so q1 nt) (s1 := if of2 code = true then so q1 nt else 1) hR hWf hGf hc rfl rfl rfl rfl (inN_so h16 n0) (fun o2 => inN_so h16 (n1 o2)) (fun o2 => if_pos o2) (fun o2 => if_neg (by rw [o2]; decide))
      have hi1 : ∀ c, 56 ≤ c → I1 c = I c := fun c hc => by rw [s1 c (by omega) (by omega), fphi _ _ c hc]
      refine ⟨v, I1, fun Q => ?_, hi1, fun Im fm hs => ?_⟩
      · rw [sw Q, if_pos hall, s3]
        simp only [e_136_85, e_136_88, e_136_89, va_rf_some, push_s, push_n, nb0, nb1, nbb, Nat.reduceLT]
      · have f57 : ∀ c, 57 ≤ c → c ≤ 77 → Im c = I c := fun c c1 c2 => by rw [fm.2.1 c c1 c2, hi1 c (by omega)]
        have f56 : ∀ j, j ≠ 30 → j ≠ 31 → Im 56 j = I 56 j := fun j j1 j2 => by rw [fm.2.2.1 j j1 j2, hi1 56 (by decide)]
        have f' := f35 f57 (v := 0)
        obtain ⟨g0, g1⟩ := fits f57 hs
        obtain ⟨mw', my'⟩ := mod_WY hW (Im := va_up Im 56 (upd (Im 56) 35 0)) f' (f56 2 (by decide) (by decide)) (f56 3 (by decide) (by decide))
        have mk : ∀ c, c < 56 → mask (va_up Im 56 (upd (Im 56) 35 0)) code (so q0 nt) (if of2 code = true then so q1 nt else 0) c = Im c := fun c hc => by
          unfold mask
          rw [vu, if_neg (by omega), vu, if_neg (by omega), vu, if_neg (by omega)]
        have mk2 : ∀ c, 57 ≤ c → c ≤ 77 → mask (va_up Im 56 (upd (Im 56) 35 0)) code (so q0 nt) (if of2 code = true then so q1 nt else 0) c = Im c := fun c c1 c2 => by
          unfold mask
          rw [vu, if_neg (by omega), vu, if_neg (by omega), vu, if_neg (by omega)]
        obtain ⟨I', r1, r2, r3, r4, r5⟩ := s4 (mask (va_up Im 56 (upd (Im 56) 35 0)) code (so q0 nt) (if of2 code = true then so q1 nt else 0)) ⟨fun c hc => by rw [mk c hc, fm.1 c hc], fun c c1 c2 => by rw [mk2 c c1 c2, f57 c c1 c2, fphi _ _ c (by omega)], by
            refine ⟨?_, ?_, ?_, ?_⟩
            · rw [fphi _ _ 56 (by decide)]; exact f56 1 (by decide) (by decide)
            · rw [fphi _ _ 56 (by decide)]; exact f56 2 (by decide) (by decide)
            · rw [fphi _ _ 56 (by decide)]; exact f56 3 (by decide) (by decide)
            · rw [fphi _ _ 56 (by decide)]; exact f56 13 (by decide) (by decide)⟩ rfl rfl (fun o2 => if_pos o2)
        have hm := fun {Q} => m_asks_2 (E := E) (Q := Q) (J := J) hR mw' my' hc (by rw [g0]; exact n0) (fun o2 => by rw [g1 o2]; exact n1 o2) (v := v) (I2 := I') (fun Q => by
          rw [g0]
          cases o2 : of2 code with
          | true =>
            rw [g1 o2]
            have := r1 Q
            rw [o2] at this
            exact this
          | false =>
            have := r1 Q
            rw [o2] at this
            exact this)
        refine ⟨I', fun Q => m_say_act hR hc (fun Q => hm), r2, ?_⟩
        have t1 : txs I I0 := frQ_txs hq0
        refine ⟨fun c hc => ?_, ?_, ?_⟩
        · rw [r3 c hc, mk c (by omega), fm.1 c (by omega), s2 c hc]
          exact ((fpQ (so q0 nt) (if of2 code = true then so q1 nt else 1)).1 c (by omega)).trans (t1.1 c hc)
        · rw [r4, mk2 66 (by decide) (by decide), f57 66 (by decide) (by decide)]
        · rw [r5]
          exact f56 13 (by decide) (by decide)
    · have o2 : of2 code = true := by
        cases o2 : of2 code with
        | true => rfl
        | false => exact absurd (fun e => by rw [o2] at e; cases e) n1
      have n1' : anyb q1 nt = false := by
        cases g : anyb q1 nt with
        | false => rfl
        | true => exact absurd (fun _ => g) n1
      have hno : (anyb q0 nt && (!(of2 code) || anyb q1 nt)) = false := by rw [n0, o2, n1']; rfl
      refine ⟨3, _, fun Q => by rw [sw Q, if_neg (by rw [hno]; decide)], fphi _ _, fun Im fm hs => ?_⟩
      have f57 : ∀ c, 57 ≤ c → c ≤ 77 → Im c = I c := fun c c1 c2 => by rw [fm.2.1 c c1 c2, fphi _ _ c (by omega)]
      have f56 : ∀ j, j ≠ 30 → j ≠ 31 → Im 56 j = I 56 j := fun j j1 j2 => by rw [fm.2.2.1 j j1 j2, fphi _ _ 56 (by decide)]
      have f' := f35 f57 (v := 0)
      obtain ⟨g0, g1⟩ := fits f57 hs
      obtain ⟨mw', my'⟩ := mod_WY hW (Im := va_up Im 56 (upd (Im 56) 35 0)) f' (f56 2 (by decide) (by decide)) (f56 3 (by decide) (by decide))
      have hm := fun {Q} => m_asks_1 (E := E) (Q := Q) (J := J) hR mw' my' hc (by rw [g0]; exact n0) o2 (by rw [g1 o2]; exact n1')
      have hq : frQ I (mask (va_up Im 56 (upd (Im 56) 35 0)) code (so (mfit (va_up Im 56 (upd (Im 56) 35 0)) pl nt y 0) nt) 0) := frQ_trans (frQ_trans (frQ_trans (frQ_trans (frQ_trans hq0 (fpQ _ _)) (frM2_Q fm)) (frQ_35 Im 0)) (frQ_36 _ (nI code))) (frQ_82 _ _)
      refine ⟨_, fun Q => m_say_act hR hc (fun Q => hm), ⟨y, pl, u, nx, code, 0, frQ_W hh hq hW, frQ_G hh hq hG, DB_0 hc ?_ rfl rfl⟩, frQ_txs hq⟩
      unfold mask
      rw [vu, if_neg (by decide), vu, if_neg (by decide), vu, if_neg (by decide), fm.1 55 (by decide)]
      exact fp55 _ _
  · have n0' : anyb q0 nt = false := by simpa using n0
    have hno : (anyb q0 nt && (!(of2 code) || anyb q1 nt)) = false := by rw [n0']; rfl
    refine ⟨3, _, fun Q => by rw [sw Q, if_neg (by rw [hno]; decide)], fphi _ _, fun Im fm hs => ?_⟩
    have f57 : ∀ c, 57 ≤ c → c ≤ 77 → Im c = I c := fun c c1 c2 => by rw [fm.2.1 c c1 c2, fphi _ _ c (by omega)]
    have f56 : ∀ j, j ≠ 30 → j ≠ 31 → Im 56 j = I 56 j := fun j j1 j2 => by rw [fm.2.2.1 j j1 j2, fphi _ _ 56 (by decide)]
    have f' := f35 f57 (v := 0)
    obtain ⟨g0, g1⟩ := fits f57 hs
    obtain ⟨mw', my'⟩ := mod_WY hW (Im := va_up Im 56 (upd (Im 56) 35 0)) f' (f56 2 (by decide) (by decide)) (f56 3 (by decide) (by decide))
    have hm := fun {Q} => m_asks_0 (E := E) (Q := Q) (J := J) hR mw' my' (a := code) (by rw [g0]; exact n0')
    have hq : frQ I (va_up (va_up (va_up Im 56 (upd (Im 56) 35 0)) 56 (upd (va_up Im 56 (upd (Im 56) 35 0) 56) 36 (nI code))) 82 (upd (va_up Im 56 (upd (Im 56) 35 0) 82) 0 0)) := frQ_trans (frQ_trans (frQ_trans (frQ_trans (frQ_trans hq0 (fpQ _ _)) (frM2_Q fm)) (frQ_35 Im 0)) (frQ_36 _ (nI code))) (frQ_82 _ _)
    refine ⟨_, fun Q => m_say_act hR hc (fun Q => hm), ⟨y, pl, u, nx, code, 0, frQ_W hh hq hW, frQ_G hh hq hG, DB_0 hc ?_ rfl rfl⟩, frQ_txs hq⟩
    rw [vu, if_neg (by decide), vu, if_neg (by decide), vu, if_neg (by decide), fm.1 55 (by decide)]
    exact fp55 _ _
theorem br_20 (hR : tRef h d R) (hh : h = 4 ∨ h = 13) (hW : RW I h nr nt y pl) (hG : RNG I h nr nt u nx) (hD : DB I nt a k) (h0 : 0 < k) (b1 : ∀ c, c < 51 → Ib c = I c) (b2 : ∀ c, 55 ≤ c → Ib c = I c) (hp : PAR Ib c wn 20) : BRC E J R I Ib h nr nt c wn 20 := by
  have hqb : frQ I Ib := frQ_b b1 b2
  have hWb := frQ_W hh hqb hW
  have hGb := frQ_G hh hqb hG
  have h16 := RR_16 hW.1
  obtain ⟨⟨dk, da⟩, ⟨d1, d2, d3⟩, dd⟩ := hD
  obtain ⟨⟨d4, d5, d6, d7, d8⟩, d9, d10, d11⟩ := dd h0
  obtain ⟨kk, hkk⟩ : ∃ kk, k = kk + 1 := ⟨k - 1, by omega⟩
  subst hkk
  have hk2 : kk < 2 := by omega
  have i55 : Ib 55 = I 55 := b2 55 (by decide)
  obtain ⟨p1, p2⟩ := hp.2.1 rfl
  have hs82 : I 55 (3 + kk) = I 82 kk := by
    rcases (by omega : kk = 0 ∨ kk = 1) with q | q
    · subst q; exact d6
    · subst q; exact d7 (d11 rfl)
  have hin : inN nt (I 82 kk) := by
    rcases (by omega : kk = 0 ∨ kk = 1) with q | q
    · subst q; exact d9
    · subst q; exact d10 (d11 rfl)
  have nd := fun {Q} => c_narrowDoubt (E := E) (Q := Q) (J := J) hR hWb.1 hk2 (by rw [i55]; exact d1) (s := I 82 kk) (by rw [i55]; exact hs82) hin.1
  generalize hg : (fun t => nmq Ib 53 (Ib 59 t) (Ib 60 t) && bt (I 82 kk) t) = g at nd
  have ek : knd 20 = nI 2 := rfl
  have told : ∀ {Im : Nat → Nat → Int32}, (∀ c, 57 ≤ c → c ≤ 77 → Im c = I c) → Im 82 = I 82 → SEN Im c wn 20 → (fun t => mtold Im 0 t && bt (Im 82 kk) t) = g := fun {Im} f f82 hs => by
    obtain ⟨s1, s2, s3⟩ := hs.2 rfl
    rw [← hg]
    funext t
    unfold mtold mso nmq
    rw [s1, if_pos rfl, s2, s3, p1, p2, f82, f 59 (by decide) (by decide), f 60 (by decide) (by decide), b2 59 (by decide), b2 60 (by decide)]
    rw [show decide (I 59 t = sNv c wn 0) = decide (sNv c wn 0 = I 59 t) from decide_eq_decide.mpr eq_comm, show decide (I 60 t = sAv c wn 0) = decide (sAv c wn 0 = I 60 t) from decide_eq_decide.mpr eq_comm]
  by_cases n0 : anyb g nt = true
  · have ndt : ∀ Q, tEv E 89 0 [.ref 0, tm_dum] [] (mS Ib J R) Q = Q (some 1) (mS (va_up Ib 55 (upd (Ib 55) (3 + kk) (so g nt))) J R) := fun Q => by rw [nd, if_pos n0]
    have hqs : frQ I (va_up Ib 55 (upd (Ib 55) (3 + kk) (so g nt))) := frQ_trans hqb (frQ_55 Ib _)
    obtain ⟨f0, f1, hf0, hf1, hs3, hs4, hn0, hn1, m0, m1⟩ : ∃ f0 f1 : Int32, (kk = 0 → f0 = so g nt ∧ f1 = I 82 1) ∧ (kk = 1 → f0 = I 82 0 ∧ f1 = so g nt) ∧ upd (Ib 55) (3 + kk) (so g nt) 3 = f0 ∧ (of2 a = true → upd (Ib 55) (3 + kk) (so g nt) 4 = f1) ∧ inN nt f0 ∧ (of2 a = true → inN nt f1) ∧ upd (I 82) kk (so g nt) 0 = f0 ∧ upd (I 82) kk (so g nt) 1 = f1 := by
      rcases (by omega : kk = 0 ∨ kk = 1) with q | q
      · subst q
        exact ⟨so g nt, I 82 1, fun _ => ⟨rfl, rfl⟩, fun e => (by cases e), rfl, fun o2 => (by rw [i55]; exact d7 o2), inN_so h16 n0, d10, rfl, rfl⟩
      · subst q
        exact ⟨I 82 0, so g nt, fun e => (by cases e), fun _ => ⟨rfl, rfl⟩, (by rw [i55]; exact d6), fun _ => rfl, d9, fun _ => inN_so h16 n0, rfl, rfl⟩
    have hs1 : of2 a = false → upd (Ib 55) (3 + kk) (so g nt) 4 = 1 := fun o2 => by
      rcases (by omega : kk = 0 ∨ kk = 1) with q | q
      · subst q
        rw [i55]
        exact d8 o2
      · subst q
        rw [d11 rfl] at o2
        cases o2
    have u1 : upd (Ib 55) (3 + kk) (so g nt) 1 = Ib 55 1 := by rw [ud, if_neg (by omega)]
    have u2 : upd (Ib 55) (3 + kk) (so g nt) 2 = Ib 55 2 := by rw [ud, if_neg (by omega)]
    obtain ⟨v, I1, s1, s2, s3, s4⟩ := settle_ok (E := E) (J := J) (I := va_up Ib 55 (upd (Ib 55) (3 + kk) (so g nt))) (f0 := f0) (f1 := f1) (s1 := upd (Ib 55) (3 + kk) (so g nt) 4) hR (frQ_W hh hqs hW) (frQ_G hh hqs hG) da (by rw [vu_eq, u1, i55]; exact d4) (by rw [vu_eq, u2, i55]; exact d5) (by rw [vu_eq]; exact hs3) (by rw [vu_eq]) hn0 hn1 hs4 hs1
    have shi : ∀ c, 56 ≤ c → va_up Ib 55 (upd (Ib 55) (3 + kk) (so g nt)) c = I c := fun c hc => by
      rw [vu, if_neg (by omega)]
      exact b2 c (by omega)
    have hi1 : ∀ c, 56 ≤ c → I1 c = I c := fun c hc => by rw [s1 c (by omega) (by omega), shi c hc]
    refine ⟨v, I1, fun Q => ?_, hi1, fun Im fm hs => ?_⟩
    · simp only [e_136_35, e_136_36, e_136_39, e_136_40, e_136_41, e_136_42, e_136_43, e_136_46, e_136_47, e_136_50, e_136_53, e_136_54, rf_0_0 hR, rf_0_1 hR, rf_0_2 hR, rf_0_3 hR, rf_0_4 hR, rf_0_5 hR, rf_0_6 hR, rf_1_0 hR, rf_3_0 hR, rf_3_2 hR, rf_4_3 hR, rf_4_4 hR, rf_4_5 hR, rf_4_6 hR, rf_4_7 hR, rf_4_8 hR, rf_4_9 hR, rf_12_1 hR, rf_13_3 hR, rf_13_4 hR, rf_13_5 hR, rf_13_6 hR, rf_13_7 hR, rf_13_8 hR, rf_13_9 hR, rf_21_0 hR, rf_21_1 hR, rf_24_0 hR, rf_25_0 hR, rf_26_0 hR, rf_26_1 hR, rf_26_2 hR, rf_26_3 hR, rf_26_4 hR, rf_26_5 hR, rf_26_6 hR, rf_26_7 hR, rf_27_0 hR, rf_27_1 hR, rf_30_0 hR, rf_30_1 hR, rf_33_0 hR, rf_33_1 hR, rf_36_0 hR, rf_36_1 hR, rf_39_0 hR, rf_39_1 hR, rf_42_0 hR, rf_42_1 hR, rf_45_0 hR, rf_45_1 hR, rf_48_0 hR, rf_48_1 hR, rf_51_0 hR, rf_51_1 hR, rf_51_6 hR, rf_51_7 hR, rf_h_3 hR, rf_d_3 hR, rf_h_4 hR, rf_d_4 hR, rf_h_5 hR, rf_d_5 hR, rf_h_6 hR, rf_d_6 hR, rf_h_7 hR, rf_d_7 hR, rf_h_8 hR, rf_d_8 hR, rf_h_9 hR, rf_d_9 hR, rf_12_0 hR, rf_3_1 hR, kn_0, kn_1, kn_2, kn_3, kn_4, kn_5, kn_6, kn_7, kn_8, kn_9, kn_10, kn_11, kn_12, kn_13, kn_14, kn_15, kn_16, kn_17, kn_18, kn_19, kn_20, kn_21, kn_22, kn_23, kn_24, kn_25, kn_26, kn_27, kn_28, kn_29, kn_30, kn_31, kn_32, kn_33, kn_34, kn_35, kn_36, kn_37, kn_38, kn_39, kn_40, kn_41, kn_42, kn_43, kn_44, kn_45, kn_46, kn_47, kn_48, kn_49, kn_50, kn_51, kn_52, kn_53, kn_54, kn_55, ln_2, ln_5, ln_6, ln_7, ln_8, ln_9, ln_10, ln_11, ln_14, ln_15, ln_16, ln_17, ln_18, ln_19, ln_20, ln_22, ln_23, ln_26, ln_28, ln_29, ln_31, ln_32, ln_34, ln_35, ln_37, ln_38, ln_40, ln_41, ln_43, ln_44, ln_46, ln_47, ln_49, ln_50, ln_52, kn_h hR, lt_h hR, kn_h1 hR, ln_h1 hR, lt_h1 hR, kn_h2 hR, ln_h2 hR, lt_h2 hR, kn_h3 hR, ln_h3 hR, lt_h3 hR, kn_h4 hR, ln_h4 hR, lt_h4 hR, kn_h5 hR, ln_h5 hR, lt_h5 hR, kn_h6 hR, ln_h6 hR, lt_h6 hR, kn_h7 hR, ln_h7 hR, lt_h7 hR, kn_d hR, lt_d hR, kn_d1 hR, ln_d1 hR, lt_d1 hR, kn_d2 hR, ln_d2 hR, lt_d2 hR, kn_d3 hR, ln_d3 hR, lt_d3 hR, kn_d4 hR, ln_d4 hR, lt_d4 hR, kn_d5 hR, ln_d5 hR, lt_d5 hR, kn_d6 hR, ln_d6 hR, lt_d6 hR, kn_d7 hR, ln_d7 hR, lt_d7 hR, va_rf_some, push_s, push_n, nb0, nb1, nbb, Nat.reduceLT, ek, show (nI 2 = 0) = False from eq_false (by decide), show (nI 2 = 2) = True from eq_true rfl, if_true, if_false, ndt, show ((1 : Int32) = 0) = False from eq_false (by decide), s3]
      simp only [e_136_57, e_136_60, e_136_61, va_rf_some, push_s, push_n, nb0, nb1, nbb, Nat.reduceLT]
    · have f57 : ∀ c, 57 ≤ c → c ≤ 77 → Im c = I c := fun c c1 c2 => by rw [fm.2.1 c c1 c2, hi1 c (by omega)]
      have f56 : ∀ j, j ≠ 30 → j ≠ 31 → Im 56 j = I 56 j := fun j j1 j2 => by rw [fm.2.2.1 j j1 j2, hi1 56 (by decide)]
      have f82 : Im 82 = I 82 := by rw [fm.2.2.2, hi1 82 (by decide)]
      have et := told f57 f82 hs
      obtain ⟨mw, my⟩ := mod_WY hW f57 (f56 2 (by decide) (by decide)) (f56 3 (by decide) (by decide))
      obtain ⟨I', r1, r2, r3, r4, r5⟩ := s4 (va_up Im 82 (upd (Im 82) kk (so g nt))) ⟨fun c hc => by rw [vu, if_neg (by omega), fm.1 c hc], fun c c1 c2 => by rw [vu, if_neg (by omega), f57 c c1 c2, shi c (by omega)], by
          refine ⟨?_, ?_, ?_, ?_⟩
          · rw [shi 56 (by decide)]; exact f56 1 (by decide) (by decide)
          · rw [shi 56 (by decide)]; exact f56 2 (by decide) (by decide)
          · rw [shi 56 (by decide)]; exact f56 3 (by decide) (by decide)
          · rw [shi 56 (by decide)]; exact f56 13 (by decide) (by decide)⟩ (by
          show Im 56 36 = nI a
          rw [f56 36 (by decide) (by decide)]
          exact d3) (by rw [vu_eq, f82]; exact m0) (fun _ => by rw [vu_eq, f82]; exact m1)
      have hm := fun {Q} => m_answered_1 (E := E) (Q := Q) (J := J) hR mw hk2 (by rw [f56 35 (by decide) (by decide)]; exact d2) (by rw [et]; exact n0) (v := v) (I2 := I') (fun Q => by rw [et]; exact r1 Q)
      refine ⟨I', fun Q => m_say_20 hR (fun Q => hm), r2, fun c hc => ?_, ?_, ?_⟩
      · rw [r3 c hc, vu, if_neg (by omega), fm.1 c (by omega), s2 c hc, vu, if_neg (by omega), b1 c (by omega)]
      · rw [r4, vu, if_neg (by decide), f57 66 (by decide) (by decide)]
      · rw [r5]
        exact f56 13 (by decide) (by decide)
  · have n0' : anyb g nt = false := by simpa using n0
    have ndt : ∀ Q, tEv E 89 0 [.ref 0, tm_dum] [] (mS Ib J R) Q = Q (some 0) (mS Ib J R) := fun Q => by rw [nd, if_neg n0]
    refine ⟨3, Ib, fun Q => ?_, fun c hc => b2 c (by omega), fun Im fm hs => ?_⟩
    · simp only [e_136_35, e_136_36, e_136_39, e_136_40, e_136_41, e_136_42, e_136_43, e_136_46, e_136_47, e_136_50, e_136_53, e_136_54, e_136_57, e_136_60, e_136_61, rf_0_0 hR, rf_0_1 hR, rf_0_2 hR, rf_0_3 hR, rf_0_4 hR, rf_0_5 hR, rf_0_6 hR, rf_1_0 hR, rf_3_0 hR, rf_3_2 hR, rf_4_3 hR, rf_4_4 hR, rf_4_5 hR, rf_4_6 hR, rf_4_7 hR, rf_4_8 hR, rf_4_9 hR, rf_12_1 hR, rf_13_3 hR, rf_13_4 hR, rf_13_5 hR, rf_13_6 hR, rf_13_7 hR, rf_13_8 hR, rf_13_9 hR, rf_21_0 hR, rf_21_1 hR, rf_24_0 hR, rf_25_0 hR, rf_26_0 hR, rf_26_1 hR, rf_26_2 hR, rf_26_3 hR, rf_26_4 hR, rf_26_5 hR, rf_26_6 hR, rf_26_7 hR, rf_27_0 hR, rf_27_1 hR, rf_30_0 hR, rf_30_1 hR, rf_33_0 hR, rf_33_1 hR, rf_36_0 hR, rf_36_1 hR, rf_39_0 hR, rf_39_1 hR, rf_42_0 hR, rf_42_1 hR, rf_45_0 hR, rf_45_1 hR, rf_48_0 hR, rf_48_1 hR, rf_51_0 hR, rf_51_1 hR, rf_51_6 hR, rf_51_7 hR, rf_h_3 hR, rf_d_3 hR, rf_h_4 hR, rf_d_4 hR, rf_h_5 hR, rf_d_5 hR, rf_h_6 hR, rf_d_6 hR, rf_h_7 hR, rf_d_7 hR, rf_h_8 hR, rf_d_8 hR, rf_h_9 hR, rf_d_9 hR, rf_12_0 hR, rf_3_1 hR, kn_0, kn_1, kn_2, kn_3, kn_4, kn_5, kn_6, kn_7, kn_8, kn_9, kn_10, kn_11, kn_12, kn_13, kn_14, kn_15, kn_16, kn_17, kn_18, kn_19, kn_20, kn_21, kn_22, kn_23, kn_24, kn_25, kn_26, kn_27, kn_28, kn_29, kn_30, kn_31, kn_32, kn_33, kn_34, kn_35, kn_36, kn_37, kn_38, kn_39, kn_40, kn_41, kn_42, kn_43, kn_44, kn_45, kn_46, kn_47, kn_48, kn_49, kn_50, kn_51, kn_52, kn_53, kn_54, kn_55, ln_2, ln_5, ln_6, ln_7, ln_8, ln_9, ln_10, ln_11, ln_14, ln_15, ln_16, ln_17, ln_18, ln_19, ln_20, ln_22, ln_23, ln_26, ln_28, ln_29, ln_31, ln_32, ln_34, ln_35, ln_37, ln_38, ln_40, ln_41, ln_43, ln_44, ln_46, ln_47, ln_49, ln_50, ln_52, kn_h hR, lt_h hR, kn_h1 hR, ln_h1 hR, lt_h1 hR, kn_h2 hR, ln_h2 hR, lt_h2 hR, kn_h3 hR, ln_h3 hR, lt_h3 hR, kn_h4 hR, ln_h4 hR, lt_h4 hR, kn_h5 hR, ln_h5 hR, lt_h5 hR, kn_h6 hR, ln_h6 hR, lt_h6 hR, kn_h7 hR, ln_h7 hR, lt_h7 hR, kn_d hR, lt_d hR, kn_d1 hR, ln_d1 hR, lt_d1 hR, kn_d2 hR, ln_d2 hR, lt_d2 hR, kn_d3 hR, ln_d3 hR, lt_d3 hR, kn_d4 hR, ln_d4 hR, lt_d4 hR, kn_d5 hR, ln_d5 hR, lt_d5 hR, kn_d6 hR, ln_d6 hR, lt_d6 hR, kn_d7 hR, ln_d7 hR, lt_d7 hR, va_rf_some, push_s, push_n, nb0, nb1, nbb, Nat.reduceLT, ek, show (nI 2 = 0) = False from eq_false (by decide), show (nI 2 = 2) = True from eq_true rfl, if_true, if_false, ndt]
    · have f57 : ∀ c, 57 ≤ c → c ≤ 77 → Im c = I c := fun c c1 c2 => by rw [fm.2.1 c c1 c2, b2 c (by omega)]
      have f56 : ∀ j, j ≠ 30 → j ≠ 31 → Im 56 j = I 56 j := fun j j1 j2 => by rw [fm.2.2.1 j j1 j2, b2 56 (by decide)]
      have f82 : Im 82 = I 82 := by rw [fm.2.2.2, b2 82 (by decide)]
      have et := told f57 f82 hs
      obtain ⟨mw, my⟩ := mod_WY hW f57 (f56 2 (by decide) (by decide)) (f56 3 (by decide) (by decide))
      have hm := fun {Q} => m_answered_0 (E := E) (Q := Q) (J := J) hR mw hk2 (by rw [f56 35 (by decide) (by decide)]; exact d2) (by rw [et]; exact n0')
      have hq := frQ_trans hqb (frM2_Q fm)
      refine ⟨Im, fun Q => m_say_20 hR (fun Q => hm), ⟨y, pl, u, nx, a, kk + 1, frQ_W hh hq hW, frQ_G hh hq hG, DB_same ((fm.1 55 (by decide)).trans i55) (f56 35 (by decide) (by decide)) (f56 36 (by decide) (by decide)) f82 ⟨⟨dk, da⟩, ⟨d1, d2, d3⟩, dd⟩⟩, frQ_txs hq⟩
theorem say_ok (hR : tRef h d R) (hI : INVw I h nr nt) (hT : TX I n tc ∧ TXc I n tc) (hJ : JW J) : ∃ v I1 I', (∀ Q, tEv E 136 0 [.ref 0, tm_dum] [] (mS I J R) Q = Q (some v) (mS I1 J R)) ∧ (∀ Q, tEv E 188 0 [.ref 56, tm_dum] [] (mS I1 J R) Q = Q (some v) (mS I' J R)) ∧ INVw I' h nr nt ∧ txs I I' := by
  have hh : h = 4 ∨ h = 13 := by rcases hR.2.2.1 with q | q <;> omega
  obtain ⟨y, pl, u, nx, a, k, hW, hG, hD⟩ := hI
  cases hok : wsO J n tc (I 78) with
  | false =>
    obtain ⟨C, F', -, p2⟩ := c_readWords (E := E) (I := I) hR hT.2 hJ (JW_0 hJ) (I 78)
    rw [hok] at p2
    rw [show b2i false = 0 from rfl] at p2
    have hT1 : TX (rdS I C F') n tc := hT.1
    have e78 : rdS I C F' 78 = I 78 := rfl
    have hm := fun {Q} => m_say_1 (E := E) (Q := Q) (J := J) hR hT1 (JW_0 hJ) (by rw [e78]; exact hok)
    have hq : frQ I (sdS (rdS I C F') (wsC J n tc (rdS I C F' 78)) (wsF J n tc (rdS I C F' 78))) := by
      refine ⟨fun c hc => ?_, fun c c1 c2 => ?_, rfl, rfl, rfl, rfl⟩
      · unfold sdS rdS
        rw [vu, if_neg (by omega), vu, if_neg (by omega), vu, if_neg (by omega), vu, if_neg (by omega)]
      · unfold sdS rdS
        rw [vu, if_neg (by omega), vu, if_neg (by omega), vu, if_neg (by omega), vu, if_neg (by omega)]
    refine ⟨1, _, _, fun Q => ?_, fun Q => hm, ⟨y, pl, u, nx, a, k, frQ_W hh hq hW, frQ_G hh hq hG, DB_same rfl rfl rfl rfl hD⟩, frQ_txs hq⟩
    simp only [e_136_0, e_136_1, e_136_4, e_136_7, e_136_10, e_136_11, rf_0_0 hR, rf_0_1 hR, rf_0_2 hR, rf_0_3 hR, rf_0_4 hR, rf_0_5 hR, rf_0_6 hR, rf_1_0 hR, rf_3_0 hR, rf_3_2 hR, rf_4_3 hR, rf_4_4 hR, rf_4_5 hR, rf_4_6 hR, rf_4_7 hR, rf_4_8 hR, rf_4_9 hR, rf_12_1 hR, rf_13_3 hR, rf_13_4 hR, rf_13_5 hR, rf_13_6 hR, rf_13_7 hR, rf_13_8 hR, rf_13_9 hR, rf_21_0 hR, rf_21_1 hR, rf_24_0 hR, rf_25_0 hR, rf_26_0 hR, rf_26_1 hR, rf_26_2 hR, rf_26_3 hR, rf_26_4 hR, rf_26_5 hR, rf_26_6 hR, rf_26_7 hR, rf_27_0 hR, rf_27_1 hR, rf_30_0 hR, rf_30_1 hR, rf_33_0 hR, rf_33_1 hR, rf_36_0 hR, rf_36_1 hR, rf_39_0 hR, rf_39_1 hR, rf_42_0 hR, rf_42_1 hR, rf_45_0 hR, rf_45_1 hR, rf_48_0 hR, rf_48_1 hR, rf_51_0 hR, rf_51_1 hR, rf_51_6 hR, rf_51_7 hR, rf_h_3 hR, rf_d_3 hR, rf_h_4 hR, rf_d_4 hR, rf_h_5 hR, rf_d_5 hR, rf_h_6 hR, rf_d_6 hR, rf_h_7 hR, rf_d_7 hR, rf_h_8 hR, rf_d_8 hR, rf_h_9 hR, rf_d_9 hR, rf_12_0 hR, rf_3_1 hR, kn_0, kn_1, kn_2, kn_3, kn_4, kn_5, kn_6, kn_7, kn_8, kn_9, kn_10, kn_11, kn_12, kn_13, kn_14, kn_15, kn_16, kn_17, kn_18, kn_19, kn_20, kn_21, kn_22, kn_23, kn_24, kn_25, kn_26, kn_27, kn_28, kn_29, kn_30, kn_31, kn_32, kn_33, kn_34, kn_35, kn_36, kn_37, kn_38, kn_39, kn_40, kn_41, kn_42, kn_43, kn_44, kn_45, kn_46, kn_47, kn_48, kn_49, kn_50, kn_51, kn_52, kn_53, kn_54, kn_55, ln_2, ln_5, ln_6, ln_7, ln_8, ln_9, ln_10, ln_11, ln_14, ln_15, ln_16, ln_17, ln_18, ln_19, ln_20, ln_22, ln_23, ln_26, ln_28, ln_29, ln_31, ln_32, ln_34, ln_35, ln_37, ln_38, ln_40, ln_41, ln_43, ln_44, ln_46, ln_47, ln_49, ln_50, ln_52, kn_h hR, lt_h hR, kn_h1 hR, ln_h1 hR, lt_h1 hR, kn_h2 hR, ln_h2 hR, lt_h2 hR, kn_h3 hR, ln_h3 hR, lt_h3 hR, kn_h4 hR, ln_h4 hR, lt_h4 hR, kn_h5 hR, ln_h5 hR, lt_h5 hR, kn_h6 hR, ln_h6 hR, lt_h6 hR, kn_h7 hR, ln_h7 hR, lt_h7 hR, kn_d hR, lt_d hR, kn_d1 hR, ln_d1 hR, lt_d1 hR, kn_d2 hR, ln_d2 hR, lt_d2 hR, kn_d3 hR, ln_d3 hR, lt_d3 hR, kn_d4 hR, ln_d4 hR, lt_d4 hR, kn_d5 hR, ln_d5 hR, lt_d5 hR, kn_d6 hR, ln_d6 hR, lt_d6 hR, kn_d7 hR, ln_d7 hR, lt_d7 hR, va_rf_some, push_s, push_n, nb0, nb1, nbb, Nat.reduceLT, p2, if_true]
  | true =>
    obtain ⟨Ib, b1, b2, hp, hc⟩ := say_cls (E := E) hR hT.2 hT.1 hJ hok hD.2.1.1 (show k < 3 by have := hD.1.1; omega)
    have key : BRC E J R I Ib h nr nt (wsC J n tc (I 78)) (wsN J n tc (I 78)) (senC (wsC J n tc (I 78)) (wsN J n tc (I 78)) k) := by
      generalize hcode : senC (wsC J n tc (I 78)) (wsN J n tc (I 78)) k = code at hp
      have hr := sen_20 (wsC J n tc (I 78)) (wsN J n tc (I 78)) k
      rw [hcode] at hr
      by_cases c99 : code = 99
      · rw [c99]; exact br_99 hR hh hW hG hD b1 b2
      · by_cases c12 : code < 12
        · exact br_act hR hh hW hG b1 b2 c12 hp
        · have hr2 : code ≤ 20 := by
            rcases hr with q | q
            · exact q
            · exact absurd q c99
          rcases (by omega : code = 12 ∨ code = 13 ∨ code = 14 ∨ code = 15 ∨ (16 ≤ code ∧ code < 20) ∨ code = 20) with q | q | q | q | q | q
          · rw [q]; exact br_12 hR hh hW hG hD b1 b2
          · rw [q]; exact br_13 hR hh hW hG hD b1 b2
          · rw [q]; exact br_14 hR hh hW hG hD b1 b2
          · rw [q]; exact br_15 hR hh hW hG hD b1 b2
          · have e := br_go (E := E) (J := J) (c := wsC J n tc (I 78)) (wn := wsN J n tc (I 78)) hR hh hW hG hD b1 b2 (b := code - 16) (by omega) (hp.2.2 q.1 q.2)
            rw [show 16 + (code - 16) = code by omega] at e
            exact e
          · rw [q] at hp hcode ⊢
            exact br_20 hR hh hW hG hD (sen20 hcode) b1 b2 hp
    obtain ⟨v, I1, g1, g2, g3⟩ := key
    obtain ⟨Im, m1, m2, m3⟩ := say_mod (E := E) hR hT.1 hJ hok hD.2.1.2.1 (show k < 3 by have := hD.1.1; omega) g2
    obtain ⟨I', r1, r2, r3⟩ := g3 Im m1 m2
    exact ⟨v, I1, I', fun Q => (hc Q).trans (g1 Q), fun Q => (m3 Q).trans (r1 Q), r2, r3⟩
end H6
