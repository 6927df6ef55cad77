/-! ===== class and model: what is said, first part ===== -/
def frQ (I I' : Nat → Nat → Int32) : Prop := (∀ c, c < 51 → I' c = I c) ∧ (∀ c, 57 ≤ c → c ≤ 77 → I' c = I c) ∧ (I' 56 1 = I 56 1 ∧ I' 56 2 = I 56 2 ∧ I' 56 3 = I 56 3 ∧ I' 56 13 = I 56 13)
theorem frQ_trans {I I' I'' : Nat → Nat → Int32} (a : frQ I I') (b : frQ I' I'') : frQ I I'' := ⟨fun c h => (b.1 c h).trans (a.1 c h), fun c h g => (b.2.1 c h g).trans (a.2.1 c h g), b.2.2.1.trans a.2.2.1, b.2.2.2.1.trans a.2.2.2.1, b.2.2.2.2.1.trans a.2.2.2.2.1, b.2.2.2.2.2.trans a.2.2.2.2.2⟩
theorem frQ_agr {I I' : Nat → Nat → Int32} (a : frQ I I') : agr I I' := ⟨⟨a.2.2.2.1, a.2.2.2.2.1⟩, fun c _ _ => a.1 c (by omega), fun c _ _ => a.2.1 c (by omega) (by omega), fun q _ => by rw [a.2.1 57 (by decide) (by decide)], fun k _ _ => by rw [a.1 21 (by decide)], fun t _ => by rw [a.1 22 (by decide), a.1 23 (by decide)]; exact ⟨rfl, rfl⟩⟩
theorem frQ_W {I I' : Nat → Nat → Int32} {h nr nt y : Nat} {pl : Nat → Nat} (hh : h = 4 ∨ h = 13) (a : frQ I I') (hW : RW I h nr nt y pl) : RW I' h nr nt y pl := RW_agr hh (frQ_agr a) hW
theorem frQ_G {I I' : Nat → Nat → Int32} {h nr nt u nx : Nat} (hh : h = 4 ∨ h = 13) (a : frQ I I') (hG : RNG I h nr nt u nx) : RNG I' h nr nt u nx := by
  have g := frQ_agr a
  exact RNG_same hh ⟨g.1, g.2.1, g.2.2.1⟩ ⟨by rw [a.1 25 (by decide)], by rw [a.1 25 (by decide)]⟩ a.2.2.1 (fun c _ _ => a.1 c (by omega)) (fun q _ _ => by rw [a.2.1 57 (by decide) (by decide)]) hG
/-- the text stands as it did -/
def txs (I I' : Nat → Nat → Int32) : Prop := (∀ c, c < 4 → I' c = I c) ∧ I' 66 = I 66 ∧ I' 56 13 = I 56 13
theorem txs_trans {I I' I'' : Nat → Nat → Int32} (a : txs I I') (b : txs I' I'') : txs I I'' := ⟨fun c h => (b.1 c h).trans (a.1 c h), b.2.1.trans a.2.1, b.2.2.trans a.2.2⟩
theorem txs_TX {I I' : Nat → Nat → Int32} {n : Nat} {tc : Nat → Nat} (a : txs I I') (h : TX I n tc ∧ TXc I n tc) : TX I' n tc ∧ TXc I' n tc := by
  obtain ⟨⟨h1, h2, h3⟩, g1, g2, g3⟩ := h
  refine ⟨⟨a.2.2.trans h1, h2, fun p hp => ?_⟩, ?_, g2, fun p hp => ?_⟩
  · rw [a.2.1]; exact h3 p hp
  · rw [a.1 1 (by decide)]; exact g1
  · rw [a.1 2 (by decide)]; exact g3 p hp
theorem frQ_txs {I I' : Nat → Nat → Int32} (a : frQ I I') : txs I I' := ⟨fun c h => a.1 c (by omega), a.2.1 66 (by decide) (by decide), a.2.2.2.2.2⟩
theorem DB_same {I I' : Nat → Nat → Int32} {nt a k : Nat} (h1 : I' 55 = I 55) (h2 : I' 56 35 = I 56 35) (h3 : I' 56 36 = I 56 36) (h4 : I' 82 = I 82) (h : DB I nt a k) : DB I' nt a k := by
  unfold DB at h ⊢
  rw [h1, h2, h3, h4]
  exact h
theorem DB_0 {I' : Nat → Nat → Int32} {nt a : Nat} (ha : a < 12) (h1 : I' 55 0 = 0) (h2 : I' 56 35 = 0) (h3 : I' 56 36 = nI a) : DB I' nt a 0 := ⟨⟨by decide, ha⟩, ⟨h1, h2, h3⟩, fun e => absurd e (by decide)⟩
theorem JW_0 {J : Nat → Nat → Int64} (hJ : JW J) : wrd J 0 43 0 = -4 := by
  rw [wrd_fs hJ 0 43 0 (by decide)]
  exact fsW_none (by decide +kernel)
/-- what the model's words and sentence leave -/
def frM2 (I1 Im : Nat → Nat → Int32) : Prop := (∀ c, c < 56 → Im c = I1 c) ∧ (∀ c, 57 ≤ c → c ≤ 77 → Im c = I1 c) ∧ (∀ k, k ≠ 30 → k ≠ 31 → Im 56 k = I1 56 k) ∧ Im 82 = I1 82
theorem sen20 {c : Nat} {wn : Nat → Nat} {db : Nat} (h : senC c wn db = 20) : 0 < db := by
  rcases Nat.eq_zero_or_pos db with q | q
  · exfalso
    subst q
    have ea : anC c wn 0 = 99 := if_neg (fun f => Nat.lt_irrefl 0 f.1)
    unfold senC at h
    rw [ea] at h
    by_cases w0 : wo c wn 0 = 20
    · rw [if_pos w0] at h
      exact tk_ne c wn h
    rw [if_neg w0] at h
    by_cases w1 : wo c wn 0 = 21
    · rw [if_pos w1] at h
      exact dp_ne c wn h
    rw [if_neg w1] at h
    by_cases w2 : wo c wn 0 = 22
    · rw [if_pos w2] at h
      exact pt_ne c wn h
    rw [if_neg w2] at h
    by_cases w3 : wo c wn 0 = 23
    · rw [if_pos w3] at h
      exact o1_ne c wn 1 (by decide) h
    rw [if_neg w3] at h
    by_cases w4 : wo c wn 0 = 24
    · rw [if_pos w4] at h
      exact o1_ne c wn 1 (by decide) h
    rw [if_neg w4] at h
    by_cases w5 : wo c wn 0 = 25
    · rw [if_pos w5] at h
      exact t2_ne c wn (by decide) h
    rw [if_neg w5] at h
    by_cases w6 : wo c wn 0 = 26
    · rw [if_pos w6] at h
      exact t2_ne c wn (by decide) h
    rw [if_neg w6] at h
    by_cases w7 : wo c wn 0 = 27
    · rw [if_pos w7] at h
      exact o1_ne c wn 1 (by decide) h
    rw [if_neg w7] at h
    by_cases w8 : wo c wn 0 = 28
    · rw [if_pos w8] at h
      exact o1_ne c wn 1 (by decide) h
    rw [if_neg w8] at h
    by_cases w9 : wo c wn 0 = 29
    · rw [if_pos w9] at h
      exact (go_ne c wn 1 2).1 h
    rw [if_neg w9] at h
    by_cases w10 : wo c wn 0 = 30
    · rw [if_pos w10] at h
      exact lk_ne c wn h
    rw [if_neg w10] at h
    by_cases w31 : wo c wn 0 = 31
    · rw [if_pos w31] at h
      by_cases g : c = 1
      · rw [if_pos g] at h
        cases h
      · rw [if_neg g] at h
        cases h
    rw [if_neg w31] at h
    by_cases wg : 39 ≤ wo c wn 0 ∧ wo c wn 0 ≤ 42
    · rw [if_pos wg] at h
      exact (go_ne c wn 0 1).1 h
    · rw [if_neg wg] at h
      cases h
  · exact q
section H3
variable {E : tm_Env} {Q : Option Int32 → tm_St → Prop} {I : Nat → Nat → Int32} {J : Nat → Nat → Int64} {R : Nat → Nat → Option Nat} {h d : Nat} {nr nt y u nx n a k : Nat} {pl : Nat → Nat} {tc : Nat → Nat}
theorem say_mod (hR : tRef h d R) (hT : TX I n tc) (hJ : JW J) (hok : wsO J n tc (I 78) = true) {db : Nat} (hdb : I 56 35 = nI db) (hd3 : db < 3) {I1 : Nat → Nat → Int32} (hi : ∀ c, 56 ≤ c → I1 c = I c) : ∃ Im, frM2 I1 Im ∧ SEN Im (wsC J n tc (I 78)) (wsN J n tc (I 78)) (senC (wsC J n tc (I 78)) (wsN J n tc (I 78)) db) ∧ ∀ Q, tEv E 188 0 [.ref 56, tm_dum] [] (mS I1 J R) Q = tEv E 188 14 [.ref 56, .int (cdV (senC (wsC J n tc (I 78)) (wsN J n tc (I 78)) db))] [] (mS Im J R) Q := by
  have hT1 : TX I1 n tc := by
    unfold TX at hT ⊢
    rw [hi 56 (by decide), hi 66 (by decide)]
    exact hT
  have e78 : I1 78 = I 78 := hi 78 (by decide)
  have hok1 : wsO J n tc (I1 78) = true := by rw [e78]; exact hok
  have hS := wds_S hT1 (JW_0 hJ) hok1
  obtain ⟨Im, f1, f2, f3⟩ := m_sentence (E := E) (J := J) hR hS (db := db) (show sdS I1 _ _ 56 35 = nI db from (show sdS I1 (wsC J n tc (I1 78)) (wsF J n tc (I1 78)) 56 35 = I1 56 35 from rfl).trans (by rw [hi 56 (by decide)]; exact hdb)) hd3
  have hx := fun {Q} => m_say_x (E := E) (Q := Q) (J := J) hR hT1 (JW_0 hJ) hok1 f3
  rw [e78] at f2 hx f1
  refine ⟨Im, ⟨fun c hc => ?_, fun c c1 c2 => ?_, fun k k1 k2 => ?_, ?_⟩, f2, fun Q => hx⟩
  · rw [f1.1 c (by omega) (by omega) (by omega) (by omega)]
    unfold sdS
    rw [vu, if_neg (by omega), vu, if_neg (by omega)]
  · rw [f1.1 c (by omega) (by omega) (by omega) (by omega)]
    unfold sdS
    rw [vu, if_neg (by omega), vu, if_neg (by omega)]
  · rw [f1.2 k k2]
    unfold sdS
    rw [vu, if_neg (by decide), vu_eq, ud, if_neg k1]
  · rw [f1.1 82 (by decide) (by decide) (by decide) (by decide)]
    rfl
theorem say_cls (hR : tRef h d R) (hT : TXc I n tc) (hT2 : TX I n tc) (hJ : JW J) (hok : wsO J n tc (I 78) = true) {db : Nat} (hdb : I 55 0 = nI db) (hd3 : db < 3) : ∃ Ib, (∀ c, c < 51 → Ib c = I c) ∧ (∀ c, 55 ≤ c → Ib c = I c) ∧ PAR Ib (wsC J n tc (I 78)) (wsN J n tc (I 78)) (senC (wsC J n tc (I 78)) (wsN J n tc (I 78)) db) ∧ ∀ Q, tEv E 136 0 [.ref 0, tm_dum] [] (mS I J R) Q = tEv E 136 35 [.ref 0, .int (knd (senC (wsC J n tc (I 78)) (wsN J n tc (I 78)) db))] [] (mS Ib J R) Q := by
  obtain ⟨C, F', p1, p2⟩ := c_readWords (E := E) (I := I) hR hT hJ (JW_0 hJ) (I 78)
  obtain ⟨g1, g2, g3⟩ := p1 hok
  have hS := wds_S hT2 (JW_0 hJ) hok
  have hSc : WSc (rdS I C F') (wsC J n tc (I 78)) (wsN J n tc (I 78)) := by
    refine ⟨by rw [rdS_c, g1], by omega, fun k hk => ?_⟩
    rw [rdS_52, g3 k (by omega)]
    exact hS.2.2 k hk
  obtain ⟨Ib, f1, f2, f3⟩ := c_parse (E := E) (J := J) hR hSc (db := db)
  refine ⟨Ib, fun c hc => ?_, fun c hc => ?_, f2, fun Q => ?_⟩
  · rw [f1.1 c (by omega) (by omega) (by omega)]
    unfold rdS
    rw [vu, if_neg (by omega), vu, if_neg (by omega)]
  · rw [f1.1 c (by omega) (by omega) (by omega)]
    unfold rdS
    rw [vu, if_neg (by omega), vu, if_neg (by omega)]
  · have e55 : rdS I C F' 55 0 = nI db := (show rdS I C F' 55 0 = I 55 0 from rfl).trans hdb
    rw [hok] at p2
    have p3 := p2
    rw [show b2i true = 1 from rfl] at p3
    by_cases q : db = 0
    · have e0 : (nI db = 0) = True := eq_true (by rw [q]; rfl)
      have f4 := f3
      rw [decide_eq_false (show ¬ 0 < db by omega), show b2i false = 0 from rfl] at f4
      simp only [e_136_0, e_136_1, e_136_4, e_136_7, e_136_10, e_136_11, e_136_12, e_136_13, e_136_16, e_136_17, e_136_20, e_136_23, e_136_26, e_136_27, e_136_30, e_136_31, e_136_34, rf_0_0 hR, rf_0_1 hR, rf_0_2 hR, rf_0_3 hR, rf_0_4 hR, rf_0_5 hR, rf_0_6 hR, rf_1_0 hR, rf_3_0 hR, rf_3_2 hR, rf_4_3 hR, rf_4_4 hR, rf_4_5 hR, rf_4_6 hR, rf_4_7 hR, rf_4_8 hR, rf_4_9 hR, rf_12_1 hR, rf_13_3 hR, rf_13_4 hR, rf_13_5 hR, rf_13_6 hR, rf_13_7 hR, rf_13_8 hR, rf_13_9 hR, rf_21_0 hR, rf_21_1 hR, rf_24_0 hR, rf_25_0 hR, rf_26_0 hR, rf_26_1 hR, rf_26_2 hR, rf_26_3 hR, rf_26_4 hR, rf_26_5 hR, rf_26_6 hR, rf_26_7 hR, rf_27_0 hR, rf_27_1 hR, rf_30_0 hR, rf_30_1 hR, rf_33_0 hR, rf_33_1 hR, rf_36_0 hR, rf_36_1 hR, rf_39_0 hR, rf_39_1 hR, rf_42_0 hR, rf_42_1 hR, rf_45_0 hR, rf_45_1 hR, rf_48_0 hR, rf_48_1 hR, rf_51_0 hR, rf_51_1 hR, rf_51_6 hR, rf_51_7 hR, rf_h_3 hR, rf_d_3 hR, rf_h_4 hR, rf_d_4 hR, rf_h_5 hR, rf_d_5 hR, rf_h_6 hR, rf_d_6 hR, rf_h_7 hR, rf_d_7 hR, rf_h_8 hR, rf_d_8 hR, rf_h_9 hR, rf_d_9 hR, rf_12_0 hR, rf_3_1 hR, kn_0, kn_1, kn_2, kn_3, kn_4, kn_5, kn_6, kn_7, kn_8, kn_9, kn_10, kn_11, kn_12, kn_13, kn_14, kn_15, kn_16, kn_17, kn_18, kn_19, kn_20, kn_21, kn_22, kn_23, kn_24, kn_25, kn_26, kn_27, kn_28, kn_29, kn_30, kn_31, kn_32, kn_33, kn_34, kn_35, kn_36, kn_37, kn_38, kn_39, kn_40, kn_41, kn_42, kn_43, kn_44, kn_45, kn_46, kn_47, kn_48, kn_49, kn_50, kn_51, kn_52, kn_53, kn_54, kn_55, ln_2, ln_5, ln_6, ln_7, ln_8, ln_9, ln_10, ln_11, ln_14, ln_15, ln_16, ln_17, ln_18, ln_19, ln_20, ln_22, ln_23, ln_26, ln_28, ln_29, ln_31, ln_32, ln_34, ln_35, ln_37, ln_38, ln_40, ln_41, ln_43, ln_44, ln_46, ln_47, ln_49, ln_50, ln_52, kn_h hR, lt_h hR, kn_h1 hR, ln_h1 hR, lt_h1 hR, kn_h2 hR, ln_h2 hR, lt_h2 hR, kn_h3 hR, ln_h3 hR, lt_h3 hR, kn_h4 hR, ln_h4 hR, lt_h4 hR, kn_h5 hR, ln_h5 hR, lt_h5 hR, kn_h6 hR, ln_h6 hR, lt_h6 hR, kn_h7 hR, ln_h7 hR, lt_h7 hR, kn_d hR, lt_d hR, kn_d1 hR, ln_d1 hR, lt_d1 hR, kn_d2 hR, ln_d2 hR, lt_d2 hR, kn_d3 hR, ln_d3 hR, lt_d3 hR, kn_d4 hR, ln_d4 hR, lt_d4 hR, kn_d5 hR, ln_d5 hR, lt_d5 hR, kn_d6 hR, ln_d6 hR, lt_d6 hR, kn_d7 hR, ln_d7 hR, lt_d7 hR, va_rf_some, push_s, push_n, nb0, nb1, nbb, Nat.reduceLT, p3, show ((1 : Int32) = 0) = False from eq_false (by decide), if_false, e55, e0, if_true, f4]
    · have e0 : (nI db = 0) = False := eq_false (fun e => by have := (nI_eq (b := 0) (by omega) (by omega)).mp e; omega)
      have f4 := f3
      rw [decide_eq_true (show 0 < db by omega), show b2i true = 1 from rfl] at f4
      simp only [e_136_0, e_136_1, e_136_4, e_136_7, e_136_10, e_136_11, e_136_12, e_136_13, e_136_16, e_136_17, e_136_20, e_136_23, e_136_26, e_136_27, e_136_30, e_136_31, e_136_34, rf_0_0 hR, rf_0_1 hR, rf_0_2 hR, rf_0_3 hR, rf_0_4 hR, rf_0_5 hR, rf_0_6 hR, rf_1_0 hR, rf_3_0 hR, rf_3_2 hR, rf_4_3 hR, rf_4_4 hR, rf_4_5 hR, rf_4_6 hR, rf_4_7 hR, rf_4_8 hR, rf_4_9 hR, rf_12_1 hR, rf_13_3 hR, rf_13_4 hR, rf_13_5 hR, rf_13_6 hR, rf_13_7 hR, rf_13_8 hR, rf_13_9 hR, rf_21_0 hR, rf_21_1 hR, rf_24_0 hR, rf_25_0 hR, rf_26_0 hR, rf_26_1 hR, rf_26_2 hR, rf_26_3 hR, rf_26_4 hR, rf_26_5 hR, rf_26_6 hR, rf_26_7 hR, rf_27_0 hR, rf_27_1 hR, rf_30_0 hR, rf_30_1 hR, rf_33_0 hR, rf_33_1 hR, rf_36_0 hR, rf_36_1 hR, rf_39_0 hR, rf_39_1 hR, rf_42_0 hR, rf_42_1 hR, rf_45_0 hR, rf_45_1 hR, rf_48_0 hR, rf_48_1 hR, rf_51_0 hR, rf_51_1 hR, rf_51_6 hR, rf_51_7 hR, rf_h_3 hR, rf_d_3 hR, rf_h_4 hR, rf_d_4 hR, rf_h_5 hR, rf_d_5 hR, rf_h_6 hR, rf_d_6 hR, rf_h_7 hR, rf_d_7 hR, rf_h_8 hR, rf_d_8 hR, rf_h_9 hR, rf_d_9 hR, rf_12_0 hR, rf_3_1 hR, kn_0, kn_1, kn_2, kn_3, kn_4, kn_5, kn_6, kn_7, kn_8, kn_9, kn_10, kn_11, kn_12, kn_13, kn_14, kn_15, kn_16, kn_17, kn_18, kn_19, kn_20, kn_21, kn_22, kn_23, kn_24, kn_25, kn_26, kn_27, kn_28, kn_29, kn_30, kn_31, kn_32, kn_33, kn_34, kn_35, kn_36, kn_37, kn_38, kn_39, kn_40, kn_41, kn_42, kn_43, kn_44, kn_45, kn_46, kn_47, kn_48, kn_49, kn_50, kn_51, kn_52, kn_53, kn_54, kn_55, ln_2, ln_5, ln_6, ln_7, ln_8, ln_9, ln_10, ln_11, ln_14, ln_15, ln_16, ln_17, ln_18, ln_19, ln_20, ln_22, ln_23, ln_26, ln_28, ln_29, ln_31, ln_32, ln_34, ln_35, ln_37, ln_38, ln_40, ln_41, ln_43, ln_44, ln_46, ln_47, ln_49, ln_50, ln_52, kn_h hR, lt_h hR, kn_h1 hR, ln_h1 hR, lt_h1 hR, kn_h2 hR, ln_h2 hR, lt_h2 hR, kn_h3 hR, ln_h3 hR, lt_h3 hR, kn_h4 hR, ln_h4 hR, lt_h4 hR, kn_h5 hR, ln_h5 hR, lt_h5 hR, kn_h6 hR, ln_h6 hR, lt_h6 hR, kn_h7 hR, ln_h7 hR, lt_h7 hR, kn_d hR, lt_d hR, kn_d1 hR, ln_d1 hR, lt_d1 hR, kn_d2 hR, ln_d2 hR, lt_d2 hR, kn_d3 hR, ln_d3 hR, lt_d3 hR, kn_d4 hR, ln_d4 hR, lt_d4 hR, kn_d5 hR, ln_d5 hR, lt_d5 hR, kn_d6 hR, ln_d6 hR, lt_d6 hR, kn_d7 hR, ln_d7 hR, lt_d7 hR, va_rf_some, push_s, push_n, nb0, nb1, nbb, Nat.reduceLT, p3, show ((1 : Int32) = 0) = False from eq_false (by decide), if_false, e55, e0, f4]
/-- a phrase tells the same in both -/
theorem fit_eq {Ic Im : Nat → Nat → Int32} {cell kk c b t : Nat} {wn : Nat → Nat} (h1 : CPH Ic cell c wn b) (h2 : PH Im kk c wn b) (e57 : Im 57 = Ic 57) (e59 : Im 59 = Ic 59) (e60 : Im 60 = Ic 60) : mtold Im kk t = cph Ic cell t := by
  unfold mtold cph
  by_cases q : wo c wn b = 37
  · have a1 := h1.1 q
    have a2 := h2.1 q
    rw [a1, a2, if_neg (by decide), if_neg (by decide), e57]
  · obtain ⟨a1, a3, a4⟩ := h1.2 q
    obtain ⟨b1, b3, b4⟩ := h2.2 q
    rw [a1, b1, if_pos rfl, if_pos rfl]
    unfold mso nmq
    rw [a3, a4, b3, b4, e59, e60]
    rw [show decide (Ic 59 t = sNv c wn b) = decide (sNv c wn b = Ic 59 t) from decide_eq_decide.mpr eq_comm, show decide (Ic 60 t = sAv c wn b) = decide (sAv c wn b = Ic 60 t) from decide_eq_decide.mpr eq_comm]
theorem mseen_same {Ic Im : Nat → Nat → Int32} (e57 : Im 57 = Ic 57) (e58 : Im 58 = Ic 58) (e62 : Im 62 = Ic 62) (e65 : Im 65 = Ic 65) (t : Nat) : mseen Im pl nt y t = mseen Ic pl nt y t := by
  unfold mseen mlit mdr mshut mcl mon
  rw [e57, e58, e62, e65]
end H3
