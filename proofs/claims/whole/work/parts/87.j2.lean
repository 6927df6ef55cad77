/-! ===== the class's reader: rooms and things ===== -/
/-- what is so of the bits of a draft -/
def dB (M I : Nat → Nat → Int32) (d f nt : Nat) (m : Int32) : Prop := cB I d f nt (fun t => !decide (M 74 t &&& m = 0))
/-- the draft is what the model has read: M -/
def DR (M I : Nat → Nat → Int32) (d nr nt : Nat) (pp : Nat → Nat) : Prop :=
  (I d 0 = nI nr ∧ I d 1 = nI nt ∧ nr ≤ 6 ∧ nt ≤ 16) ∧
  ((∀ r, r < 32 → bt (I d 2) r = (decide (r < nr) && decide (M 69 r = 1))) ∧ ∀ r, r < nr → M 69 r = 0 ∨ M 69 r = 1) ∧
  ((∀ k, k < 24 → I (d + 1) k = M 76 k) ∧ (∀ k, k < 24 → I (d + 2) k = M 77 k) ∧ (∀ k, k < 24 → M 76 k = -4 ∨ ∃ r, r < nr ∧ M 76 k = nI r) ∧ (∀ k, k < 24 → M 77 k = -4 ∨ ∃ t, t < nt ∧ M 77 k = nI t ∧ ¬ M 74 t &&& 4 = 0)) ∧
  ((∀ t, t < 16 → t < nt → I (d + 3) t = M 70 t) ∧ (∀ t, t < 16 → t < nt → I (d + 4) t = M 71 t) ∧ (∀ t, t < 16 → t < nt → I (d + 5) t = nI (cv (pp t))) ∧ (∀ t, t < 16 → t < nt → I (d + 6) t = M 73 t) ∧ (∀ t, t < 16 → t < nt → I (d + 7) t = M 75 t)) ∧
  ((∀ t, t < 16 → nt ≤ t → I (d + 3) t = -4 ∧ I (d + 4) t = -4 ∧ I (d + 5) t = 23 ∧ I (d + 6) t = 0 ∧ I (d + 7) t = -4)) ∧
  (dB M I d 10 nt 1 ∧ dB M I d 11 nt 2 ∧ dB M I d 12 nt 4 ∧ dB M I d 13 nt 8 ∧ dB M I d 14 nt 16 ∧ dB M I d 15 nt 32) ∧
  ((∀ t, t < 32 → bt (I d 16) t = bt (M 56 28) t) ∧ ∀ t, t < nt → M 72 t = nI (pp t) ∧ (pp t < nr ∨ (10 ≤ pp t ∧ pp t < 10 + t)))
def frD (I I' : Nat → Nat → Int32) (d : Nat) : Prop := ∀ c, c ≠ 3 → ¬ (d ≤ c ∧ c ≤ d + 7) → I' c = I c
theorem frD_refl (I : Nat → Nat → Int32) (d : Nat) : frD I I d := fun _ _ _ => rfl
theorem frD_trans {I I' I'' : Nat → Nat → Int32} {d : Nat} (a : frD I I' d) (b : frD I' I'' d) : frD I I'' d := fun c h1 h2 => (b c h1 h2).trans (a c h1 h2)
theorem frD_hx {I I' : Nat → Nat → Int32} {d p : Nat} (a : frD I I' d) : frD I (hx I' p) d := fun c h1 h2 => by rw [hx_x h1]; exact a c h1 h2
theorem frD_up {I I' : Nat → Nat → Int32} {d c : Nat} {f : Nat → Int32} (a : frD I I' d) (hc : d ≤ c ∧ c ≤ d + 7) : frD I (va_up I' c f) d := fun k h1 h2 => by
  rw [vu, if_neg (fun e => h2 (by rw [e]; exact hc))]
  exact a k h1 h2
theorem TXc_fr {I I' : Nat → Nat → Int32} {d n : Nat} {tc : Nat → Nat} (hd : d = 4 ∨ d = 13) (a : frD I I' d) (hT : TXc I n tc) : TXc I' n tc := by
  unfold TXc at hT ⊢
  rw [a 1 (by decide) (by omega), a 2 (by decide) (by omega)]
  exact hT
/-- the relation looks at the draft alone -/
theorem DR_cong {M I I' : Nat → Nat → Int32} {d nr nt : Nat} {pp : Nat → Nat} (e : ∀ c, d ≤ c → c ≤ d + 7 → I' c = I c) (h : DR M I d nr nt pp) : DR M I' d nr nt pp := by
  unfold DR dB cB at h ⊢
  rw [e d (by omega) (by omega), e (d + 1) (by omega) (by omega), e (d + 2) (by omega) (by omega), e (d + 3) (by omega) (by omega), e (d + 4) (by omega) (by omega), e (d + 5) (by omega) (by omega), e (d + 6) (by omega) (by omega), e (d + 7) (by omega) (by omega)]
  exact h
section J2
variable {E : tm_Env} {Q : Option Int32 → tm_St → Prop} {M I : Nat → Nat → Int32} {J : Nat → Nat → Int64} {R : Nat → Nat → Option Nat} {h d : Nat} {n p q nr nt : Nat} {tc pp : Nat → Nat}
theorem dd_of (hR : tRef h d R) : d = 4 ∨ d = 13 := by rcases hR.2.2.1 with q | q <;> omega
theorem sub_lt0 {c k : Nat} (hc : c < 127) (hk : k < 127) : (nI c - nI k < 0) = (c < k) := by
  apply propext
  rw [Int32.lt_iff_toInt_lt, pk_sub_toInt (by omega) (by omega), show (0 : Int32).toInt = 0 from rfl]
  omega
theorem sub_lt {c k m : Nat} (hc : c < 127) (hk : k < 127) (hm : m < 127) : (nI c - nI k < nI m) = (c < k + m) := by
  apply propext
  rw [Int32.lt_iff_toInt_lt, pk_sub_toInt (by omega) (by omega), nI_toInt (by omega)]
  omega
theorem lt_sub {c k m : Nat} (hc : c < 127) (hk : k < 127) (hm : m < 127) : (nI m < nI c - nI k) = (k + m < c) := by
  apply propext
  rw [Int32.lt_iff_toInt_lt, pk_sub_toInt (by omega) (by omega), nI_toInt (by omega)]
  omega
theorem c_readRoom (hR : tRef h d R) (hT : TXc I n tc) (hp : p < 900) (hD : DR M I d nr nt pp) : tEv E 22 0 [.ref 3, tm_dum] [] (mS (hx I p) J R) Q = if nr < 6 ∧ 48 ≤ cc n tc p ∧ cc n tc p ≤ 49 then Q (some 1) (mS (hx (va_up I d (upd (upd (I d) 2 (I d 2 ||| (nI (dv n tc p) <<< (nI nr &&& 31)))) 0 (nI (nr + 1)))) (p + 1)) J R) else Q (some 0) (mS (hx I (p + 1)) J R) := by
  have dd := dd_of hR
  have hd3 : d ≠ 3 := by omega
  have p1 := fun {Q} => c_pop3 (E := E) (Q := Q) (J := J) hR hT (show p < 1000 by omega)
  have hc := cc_c (p := p) hT
  have e1 : (nI nr < 6) = (nr < 6) := propext (nI_ltI (b := 6) (by have := hD.1.2.2.1; omega) (by omega))
  have e2 : (nI (cc n tc p) - 48 < 0) = (cc n tc p < 48) := sub_lt0 (k := 48) hc (by decide)
  have e3 : ((1 : Int32) < nI (cc n tc p) - 48) = (49 < cc n tc p) := lt_sub (k := 48) (m := 1) hc (by decide) (by decide)
  have hxd : ∀ q I, hx I q d = I d := fun q I => hx_x hd3
  have hup : ∀ q I f, va_up (hx I q) d f = hx (va_up I d f) q := fun q I f => hx_up hd3 f
  simp only [e_22_0, e_22_1, e_22_4, e_22_6, e_22_7, e_22_8, e_22_9, e_22_12, e_22_15, e_22_17, e_22_20, e_22_21, e_22_24, e_22_25, e_22_26, e_22_29, e_22_30, rf_0_0 hR, rf_0_1 hR, rf_0_2 hR, rf_0_3 hR, rf_0_4 hR, rf_0_5 hR, rf_0_6 hR, rf_1_0 hR, rf_3_0 hR, rf_3_2 hR, rf_4_3 hR, rf_4_4 hR, rf_4_5 hR, rf_4_6 hR, rf_4_7 hR, rf_4_8 hR, rf_4_9 hR, rf_12_1 hR, rf_13_3 hR, rf_13_4 hR, rf_13_5 hR, rf_13_6 hR, rf_13_7 hR, rf_13_8 hR, rf_13_9 hR, rf_21_0 hR, rf_21_1 hR, rf_24_0 hR, rf_25_0 hR, rf_26_0 hR, rf_26_1 hR, rf_26_2 hR, rf_26_3 hR, rf_26_4 hR, rf_26_5 hR, rf_26_6 hR, rf_26_7 hR, rf_27_0 hR, rf_27_1 hR, rf_30_0 hR, rf_30_1 hR, rf_33_0 hR, rf_33_1 hR, rf_36_0 hR, rf_36_1 hR, rf_39_0 hR, rf_39_1 hR, rf_42_0 hR, rf_42_1 hR, rf_45_0 hR, rf_45_1 hR, rf_48_0 hR, rf_48_1 hR, rf_51_0 hR, rf_51_1 hR, rf_51_6 hR, rf_51_7 hR, rf_h_3 hR, rf_d_3 hR, rf_h_4 hR, rf_d_4 hR, rf_h_5 hR, rf_d_5 hR, rf_h_6 hR, rf_d_6 hR, rf_h_7 hR, rf_d_7 hR, rf_h_8 hR, rf_d_8 hR, rf_h_9 hR, rf_d_9 hR, rf_12_0 hR, rf_3_1 hR, kn_0, kn_1, kn_2, kn_3, kn_4, kn_5, kn_6, kn_7, kn_8, kn_9, kn_10, kn_11, kn_12, kn_13, kn_14, kn_15, kn_16, kn_17, kn_18, kn_19, kn_20, kn_21, kn_22, kn_23, kn_24, kn_25, kn_26, kn_27, kn_28, kn_29, kn_30, kn_31, kn_32, kn_33, kn_34, kn_35, kn_36, kn_37, kn_38, kn_39, kn_40, kn_41, kn_42, kn_43, kn_44, kn_45, kn_46, kn_47, kn_48, kn_49, kn_50, kn_51, kn_52, kn_53, kn_54, kn_55, ln_2, ln_5, ln_6, ln_7, ln_8, ln_9, ln_10, ln_11, ln_14, ln_15, ln_16, ln_17, ln_18, ln_19, ln_20, ln_22, ln_23, ln_26, ln_28, ln_29, ln_31, ln_32, ln_34, ln_35, ln_37, ln_38, ln_40, ln_41, ln_43, ln_44, ln_46, ln_47, ln_49, ln_50, ln_52, kn_h hR, lt_h hR, kn_h1 hR, ln_h1 hR, lt_h1 hR, kn_h2 hR, ln_h2 hR, lt_h2 hR, kn_h3 hR, ln_h3 hR, lt_h3 hR, kn_h4 hR, ln_h4 hR, lt_h4 hR, kn_h5 hR, ln_h5 hR, lt_h5 hR, kn_h6 hR, ln_h6 hR, lt_h6 hR, kn_h7 hR, ln_h7 hR, lt_h7 hR, kn_d hR, lt_d hR, kn_d1 hR, ln_d1 hR, lt_d1 hR, kn_d2 hR, ln_d2 hR, lt_d2 hR, kn_d3 hR, ln_d3 hR, lt_d3 hR, kn_d4 hR, ln_d4 hR, lt_d4 hR, kn_d5 hR, ln_d5 hR, lt_d5 hR, kn_d6 hR, ln_d6 hR, lt_d6 hR, kn_d7 hR, ln_d7 hR, lt_d7 hR, va_rf_some, push_s, push_n, nb0, nb1, nbb, Nat.reduceLT, p1, hxd, hD.1.1, e1, e2, e3]
  by_cases c1 : nr < 6
  · rw [if_pos c1]
    by_cases c2 : cc n tc p < 48
    · rw [if_pos c2, if_neg (show ¬ (nr < 6 ∧ 48 ≤ cc n tc p ∧ cc n tc p ≤ 49) by omega)]
    · rw [if_neg c2]
      by_cases c3 : 49 < cc n tc p
      · rw [if_pos c3, if_neg (show ¬ (nr < 6 ∧ 48 ≤ cc n tc p ∧ cc n tc p ≤ 49) by omega)]
      · rw [if_neg c3, if_pos (show (nr < 6 ∧ 48 ≤ cc n tc p ∧ cc n tc p ≤ 49) by omega)]
        have ev : nI (cc n tc p) - 48 = nI (dv n tc p) := pk_sub (b := 48) (by omega)
        simp only [ev, e_22_31, e_22_32, e_22_35, e_22_36, e_22_39, e_22_40, e_22_41, e_22_44, e_22_47, e_22_48, e_22_49, e_22_52, e_22_53, e_22_56, e_22_57, e_22_60, e_22_61, e_22_62, e_22_65, e_22_66, rf_0_0 hR, rf_0_1 hR, rf_0_2 hR, rf_0_3 hR, rf_0_4 hR, rf_0_5 hR, rf_0_6 hR, rf_1_0 hR, rf_3_0 hR, rf_3_2 hR, rf_4_3 hR, rf_4_4 hR, rf_4_5 hR, rf_4_6 hR, rf_4_7 hR, rf_4_8 hR, rf_4_9 hR, rf_12_1 hR, rf_13_3 hR, rf_13_4 hR, rf_13_5 hR, rf_13_6 hR, rf_13_7 hR, rf_13_8 hR, rf_13_9 hR, rf_21_0 hR, rf_21_1 hR, rf_24_0 hR, rf_25_0 hR, rf_26_0 hR, rf_26_1 hR, rf_26_2 hR, rf_26_3 hR, rf_26_4 hR, rf_26_5 hR, rf_26_6 hR, rf_26_7 hR, rf_27_0 hR, rf_27_1 hR, rf_30_0 hR, rf_30_1 hR, rf_33_0 hR, rf_33_1 hR, rf_36_0 hR, rf_36_1 hR, rf_39_0 hR, rf_39_1 hR, rf_42_0 hR, rf_42_1 hR, rf_45_0 hR, rf_45_1 hR, rf_48_0 hR, rf_48_1 hR, rf_51_0 hR, rf_51_1 hR, rf_51_6 hR, rf_51_7 hR, rf_h_3 hR, rf_d_3 hR, rf_h_4 hR, rf_d_4 hR, rf_h_5 hR, rf_d_5 hR, rf_h_6 hR, rf_d_6 hR, rf_h_7 hR, rf_d_7 hR, rf_h_8 hR, rf_d_8 hR, rf_h_9 hR, rf_d_9 hR, rf_12_0 hR, rf_3_1 hR, kn_0, kn_1, kn_2, kn_3, kn_4, kn_5, kn_6, kn_7, kn_8, kn_9, kn_10, kn_11, kn_12, kn_13, kn_14, kn_15, kn_16, kn_17, kn_18, kn_19, kn_20, kn_21, kn_22, kn_23, kn_24, kn_25, kn_26, kn_27, kn_28, kn_29, kn_30, kn_31, kn_32, kn_33, kn_34, kn_35, kn_36, kn_37, kn_38, kn_39, kn_40, kn_41, kn_42, kn_43, kn_44, kn_45, kn_46, kn_47, kn_48, kn_49, kn_50, kn_51, kn_52, kn_53, kn_54, kn_55, ln_2, ln_5, ln_6, ln_7, ln_8, ln_9, ln_10, ln_11, ln_14, ln_15, ln_16, ln_17, ln_18, ln_19, ln_20, ln_22, ln_23, ln_26, ln_28, ln_29, ln_31, ln_32, ln_34, ln_35, ln_37, ln_38, ln_40, ln_41, ln_43, ln_44, ln_46, ln_47, ln_49, ln_50, ln_52, kn_h hR, lt_h hR, kn_h1 hR, ln_h1 hR, lt_h1 hR, kn_h2 hR, ln_h2 hR, lt_h2 hR, kn_h3 hR, ln_h3 hR, lt_h3 hR, kn_h4 hR, ln_h4 hR, lt_h4 hR, kn_h5 hR, ln_h5 hR, lt_h5 hR, kn_h6 hR, ln_h6 hR, lt_h6 hR, kn_h7 hR, ln_h7 hR, lt_h7 hR, kn_d hR, lt_d hR, kn_d1 hR, ln_d1 hR, lt_d1 hR, kn_d2 hR, ln_d2 hR, lt_d2 hR, kn_d3 hR, ln_d3 hR, lt_d3 hR, kn_d4 hR, ln_d4 hR, lt_d4 hR, kn_d5 hR, ln_d5 hR, lt_d5 hR, kn_d6 hR, ln_d6 hR, lt_d6 hR, kn_d7 hR, ln_d7 hR, lt_d7 hR, va_rf_some, push_s, push_n, nb0, nb1, nbb, Nat.reduceLT, hxd, hup, vu_eq, vu_vu, ud, Nat.reduceEqDiff, if_false, hD.1.1, nI_1]
  · rw [if_neg c1, if_neg (show ¬ (nr < 6 ∧ 48 ≤ cc n tc p ∧ cc n tc p ≤ 49) by omega)]
theorem DR_room (hd : d = 4 ∨ d = 13) (hD : DR M I d nr nt pp) (h1 : nr < 6) {v : Nat} (hv : v = 0 ∨ v = 1) : DR (rdRoom M nr v) (va_up I d (upd (upd (I d) 2 (I d 2 ||| (nI v <<< (nI nr &&& 31)))) 0 (nI (nr + 1)))) d (nr + 1) nt pp := by
  obtain ⟨⟨a1, a2, a3, a4⟩, ⟨b1, b2⟩, ⟨c1, c2, c3, c4⟩, ⟨e1, e2, e3, e4, e5⟩, f1, ⟨g1, g2, g3, g4, g5, g6⟩, i1, i2⟩ := hD
  have m : ∀ c, c ≠ 56 → c ≠ 69 → rdRoom M nr v c = M c := fun c h1 h2 => by
    unfold rdRoom
    rw [vu, if_neg h1, vu, if_neg h2]
  have m69 : ∀ r, rdRoom M nr v 69 r = if r = nr then nI v else M 69 r := fun r => by
    unfold rdRoom
    rw [vu, if_neg (by decide), vu_eq, ud]
  have ms : rdRoom M nr v 56 28 = M 56 28 := by
    unfold rdRoom
    rw [vu_eq, ud, if_neg (by decide)]
  have l : ∀ c, d < c → va_up I d (upd (upd (I d) 2 (I d 2 ||| (nI v <<< (nI nr &&& 31)))) 0 (nI (nr + 1))) c = I c := fun c hc => by rw [vu, if_neg (by omega)]
  have lk : ∀ k, k ≠ 0 → k ≠ 2 → va_up I d (upd (upd (I d) 2 (I d 2 ||| (nI v <<< (nI nr &&& 31)))) 0 (nI (nr + 1))) d k = I d k := fun k h1 h2 => by rw [vu_eq, ud, if_neg h1, ud, if_neg h2]
  unfold DR dB cB at *
  rw [l (d + 1) (by omega), l (d + 2) (by omega), l (d + 3) (by omega), l (d + 4) (by omega), l (d + 5) (by omega), l (d + 6) (by omega), l (d + 7) (by omega), m 70 (by decide) (by decide), m 71 (by decide) (by decide), m 72 (by decide) (by decide), m 73 (by decide) (by decide), m 74 (by decide) (by decide), m 75 (by decide) (by decide), m 76 (by decide) (by decide), m 77 (by decide) (by decide), ms, lk 1 (by decide) (by decide), lk 10 (by decide) (by decide), lk 11 (by decide) (by decide), lk 12 (by decide) (by decide), lk 13 (by decide) (by decide), lk 14 (by decide) (by decide), lk 15 (by decide) (by decide), lk 16 (by decide) (by decide)]
  refine ⟨⟨?_, a2, by omega, a4⟩, ⟨fun r hr => ?_, fun r hr => ?_⟩, ⟨c1, c2, fun k hk => ?_, c4⟩, ⟨e1, e2, e3, e4, e5⟩, f1, ⟨g1, g2, g3, g4, g5, g6⟩, i1, fun t ht => ?_⟩
  · rw [vu_eq, ud, if_pos rfl]
  · rw [vu_eq, ud, if_neg (by decide), ud, if_pos rfl, b_or, b1 r hr, m69, b_shl nr (by omega) _ hr]
    by_cases e : r = nr
    · subst e
      rw [if_pos rfl, decide_eq_false (Nat.lt_irrefl r), decide_eq_true (Nat.le_refl r), decide_eq_true (Nat.lt_succ_self r), Nat.sub_self]
      rcases hv with q | q <;> subst q <;> rfl
    · rw [if_neg e]
      have hz : (decide (nr ≤ r) && bt (nI v) (r - nr)) = false := by
        by_cases g : nr ≤ r
        · have : bt (nI v) (r - nr) = false := by
            rcases hv with q | q <;> subst q
            · exact b_0 _
            · rw [show nI 1 = (1 : Int32) from rfl, (by decide : ∀ i, i < 32 → bt (1 : Int32) i = decide (i = 0)) (r - nr) (by omega), decide_eq_false (by omega)]
          rw [this, Bool.and_false]
        · rw [decide_eq_false g, Bool.false_and]
      rw [hz, Bool.or_false]
      congr 1
      rw [decide_eq_decide]
      omega
  · rw [m69]
    by_cases e : r = nr
    · rw [if_pos e]
      rcases hv with q | q <;> subst q
      · exact Or.inl rfl
      · exact Or.inr rfl
    · rw [if_neg e]
      exact b2 r (by omega)
  · rcases c3 k hk with q | ⟨r, q1, q2⟩
    · exact Or.inl q
    · exact Or.inr ⟨r, by omega, q2⟩
  · obtain ⟨q1, q2⟩ := i2 t ht
    refine ⟨q1, ?_⟩
    rcases q2 with q | q
    · exact Or.inl (by omega)
    · exact Or.inr q
theorem and_bit {v m : Int32} {k : Nat} (hk : k < 32) (hm : ∀ i, i < 32 → bt m i = decide (i = k)) : (v &&& m = 0) ↔ bt v k = false := by
  constructor
  · intro e
    have h1 : bt (v &&& m) k = false := by rw [e, b_0]
    rw [b_and, hm k hk, decide_eq_true rfl, Bool.and_true] at h1
    exact h1
  · intro e
    apply b_ext
    intro i hi
    rw [b_and, hm i hi, b_0]
    by_cases g : i = k
    · rw [g, e, Bool.false_and]
    · rw [decide_eq_false g, Bool.and_false]
theorem bit1 : ∀ i, i < 32 → bt (1 : Int32) i = decide (i = 0) := by decide
theorem bit2 : ∀ i, i < 32 → bt (2 : Int32) i = decide (i = 1) := by decide
theorem bit4 : ∀ i, i < 32 → bt (4 : Int32) i = decide (i = 2) := by decide
theorem bit8 : ∀ i, i < 32 → bt (8 : Int32) i = decide (i = 3) := by decide
theorem and_3 {v : Int32} : (v &&& 3 = 0) ↔ (v &&& 1 = 0 ∧ v &&& 2 = 0) := by
  rw [and_bit (by decide) bit1, and_bit (by decide) bit2]
  constructor
  · intro e
    have h0 : bt (v &&& 3) 0 = false := by rw [e, b_0]
    have h1 : bt (v &&& 3) 1 = false := by rw [e, b_0]
    rw [b_and, show bt 3 0 = true from by decide, Bool.and_true] at h0
    rw [b_and, show bt 3 1 = true from by decide, Bool.and_true] at h1
    exact ⟨h0, h1⟩
  · rintro ⟨h0, h1⟩
    apply b_ext
    intro i hi
    rw [b_and, b_0, (by decide : ∀ i, i < 32 → bt (3 : Int32) i = (decide (i = 0) || decide (i = 1))) i hi]
    by_cases g0 : i = 0
    · rw [g0, h0, Bool.false_and]
    · by_cases g1 : i = 1
      · rw [g1, h1, Bool.false_and]
      · rw [decide_eq_false g0, decide_eq_false g1]
        simp
theorem c_readPlace (hR : tRef h d R) (hT : TXc I n tc) (hp : p < 900) (hD : DR M I d nr nt pp) : tEv E 27 0 [.ref 3, tm_dum, tm_dum, tm_dum] [] (mS (hx I p) J R) Q = Q (some (if plOk M n tc nr nt p = true then nI (cv (plV n tc p)) else -1)) (mS (hx I (p + 2)) J R) := by
  have dd := dd_of hR
  have hd3 : d ≠ 3 := by omega
  have h16 := hD.1.2.2.2
  have h6 := hD.1.2.2.1
  have p1 := fun {Q} => c_pop3 (E := E) (Q := Q) (J := J) hR hT (show p < 1000 by omega)
  have p2 := fun {Q} => c_pop3 (E := E) (Q := Q) (J := J) hR hT (show p + 1 < 1000 by omega)
  have hc := cc_c (p := p) hT
  have hc2 := cc_c (p := p + 1) hT
  have hxd : ∀ q I, hx I q d = I d := fun q I => hx_x hd3
  have e1 : (nI (cc n tc p) = 114) = (cc n tc p = 114) := propext (nI_eq (b := 114) (by omega) (by omega))
  have hnum := fun {Q} {M} => c_numberOf (E := E) (Q := Q) (M := M) hc hc2
  have hit := fun {Q} {x} => c_isThing3 (E := E) (Q := Q) (I := hx I (p + 1 + 1)) (J := J) (nt := nt) (x := x) hR (by rw [hx_x hd3]; exact hD.1.2.1)
  unfold plOk plV
  by_cases c : cc n tc p = 114
  · have e2 : (nI (cc n tc (p + 1)) - 48 < 0) = (cc n tc (p + 1) < 48) := sub_lt0 (k := 48) hc2 (by decide)
    have e3 : (nI (cc n tc (p + 1)) - 48 < nI nr) = (cc n tc (p + 1) < 48 + nr) := sub_lt (k := 48) hc2 (by decide) (by omega)
    simp only [e_27_0, e_27_1, e_27_4, e_27_5, e_27_6, e_27_9, e_27_10, e_27_11, e_27_13, e_27_16, e_27_17, e_27_19, e_27_20, e_27_21, e_27_22, e_27_25, e_27_26, e_27_27, e_27_30, e_27_33, e_27_36, e_27_37, e_27_40, e_27_41, e_27_42, e_27_43, e_27_44, e_27_47, e_27_48, e_27_49, e_27_50, e_27_53, e_27_56, e_27_57, e_27_60, e_27_63, e_27_64, e_27_67, e_27_70, e_27_71, e_27_72, e_27_75, e_27_78, e_27_80, e_27_81, e_27_82, e_27_85, e_27_86, rf_0_0 hR, rf_0_1 hR, rf_0_2 hR, rf_0_3 hR, rf_0_4 hR, rf_0_5 hR, rf_0_6 hR, rf_1_0 hR, rf_3_0 hR, rf_3_2 hR, rf_4_3 hR, rf_4_4 hR, rf_4_5 hR, rf_4_6 hR, rf_4_7 hR, rf_4_8 hR, rf_4_9 hR, rf_12_1 hR, rf_13_3 hR, rf_13_4 hR, rf_13_5 hR, rf_13_6 hR, rf_13_7 hR, rf_13_8 hR, rf_13_9 hR, rf_21_0 hR, rf_21_1 hR, rf_24_0 hR, rf_25_0 hR, rf_26_0 hR, rf_26_1 hR, rf_26_2 hR, rf_26_3 hR, rf_26_4 hR, rf_26_5 hR, rf_26_6 hR, rf_26_7 hR, rf_27_0 hR, rf_27_1 hR, rf_30_0 hR, rf_30_1 hR, rf_33_0 hR, rf_33_1 hR, rf_36_0 hR, rf_36_1 hR, rf_39_0 hR, rf_39_1 hR, rf_42_0 hR, rf_42_1 hR, rf_45_0 hR, rf_45_1 hR, rf_48_0 hR, rf_48_1 hR, rf_51_0 hR, rf_51_1 hR, rf_51_6 hR, rf_51_7 hR, rf_h_3 hR, rf_d_3 hR, rf_h_4 hR, rf_d_4 hR, rf_h_5 hR, rf_d_5 hR, rf_h_6 hR, rf_d_6 hR, rf_h_7 hR, rf_d_7 hR, rf_h_8 hR, rf_d_8 hR, rf_h_9 hR, rf_d_9 hR, rf_12_0 hR, rf_3_1 hR, kn_0, kn_1, kn_2, kn_3, kn_4, kn_5, kn_6, kn_7, kn_8, kn_9, kn_10, kn_11, kn_12, kn_13, kn_14, kn_15, kn_16, kn_17, kn_18, kn_19, kn_20, kn_21, kn_22, kn_23, kn_24, kn_25, kn_26, kn_27, kn_28, kn_29, kn_30, kn_31, kn_32, kn_33, kn_34, kn_35, kn_36, kn_37, kn_38, kn_39, kn_40, kn_41, kn_42, kn_43, kn_44, kn_45, kn_46, kn_47, kn_48, kn_49, kn_50, kn_51, kn_52, kn_53, kn_54, kn_55, ln_2, ln_5, ln_6, ln_7, ln_8, ln_9, ln_10, ln_11, ln_14, ln_15, ln_16, ln_17, ln_18, ln_19, ln_20, ln_22, ln_23, ln_26, ln_28, ln_29, ln_31, ln_32, ln_34, ln_35, ln_37, ln_38, ln_40, ln_41, ln_43, ln_44, ln_46, ln_47, ln_49, ln_50, ln_52, kn_h hR, lt_h hR, kn_h1 hR, ln_h1 hR, lt_h1 hR, kn_h2 hR, ln_h2 hR, lt_h2 hR, kn_h3 hR, ln_h3 hR, lt_h3 hR, kn_h4 hR, ln_h4 hR, lt_h4 hR, kn_h5 hR, ln_h5 hR, lt_h5 hR, kn_h6 hR, ln_h6 hR, lt_h6 hR, kn_h7 hR, ln_h7 hR, lt_h7 hR, kn_d hR, lt_d hR, kn_d1 hR, ln_d1 hR, lt_d1 hR, kn_d2 hR, ln_d2 hR, lt_d2 hR, kn_d3 hR, ln_d3 hR, lt_d3 hR, kn_d4 hR, ln_d4 hR, lt_d4 hR, kn_d5 hR, ln_d5 hR, lt_d5 hR, kn_d6 hR, ln_d6 hR, lt_d6 hR, kn_d7 hR, ln_d7 hR, lt_d7 hR, va_rf_some, push_s, push_n, nb0, nb1, nbb, Nat.reduceLT, p1, p2, e1, eq_true c, if_true, hxd, hD.1.1, e2, e3]
    unfold rmOk dg dv
    by_cases c2 : cc n tc (p + 1) < 48
    · rw [if_pos c2, decide_eq_false (show ¬ (48 ≤ cc n tc (p + 1) ∧ cc n tc (p + 1) ≤ 57) by omega)]
      simp
    · rw [if_neg c2]
      by_cases c3 : cc n tc (p + 1) < 48 + nr
      · rw [if_pos c3, decide_eq_true (show 48 ≤ cc n tc (p + 1) ∧ cc n tc (p + 1) ≤ 57 by omega), decide_eq_true (show cc n tc (p + 1) - 48 < nr by omega), if_pos (by decide), cv, if_pos (show cc n tc (p + 1) - 48 < 10 by omega), show nI (cc n tc (p + 1)) - 48 = nI (cc n tc (p + 1) - 48) from pk_sub (b := 48) (by omega)]
      · rw [if_neg c3, decide_eq_false (show ¬ cc n tc (p + 1) - 48 < nr by omega)]
        simp
  · simp only [e_27_0, e_27_1, e_27_4, e_27_5, e_27_6, e_27_9, e_27_10, e_27_11, e_27_13, e_27_16, e_27_17, e_27_19, e_27_20, e_27_21, e_27_22, e_27_25, e_27_26, e_27_27, e_27_30, e_27_33, e_27_36, e_27_37, e_27_40, e_27_41, e_27_42, e_27_43, e_27_44, e_27_47, e_27_48, e_27_49, e_27_50, e_27_53, e_27_56, e_27_57, e_27_60, e_27_63, e_27_64, e_27_67, e_27_70, e_27_71, e_27_72, e_27_75, e_27_78, e_27_80, e_27_81, e_27_82, e_27_85, e_27_86, rf_0_0 hR, rf_0_1 hR, rf_0_2 hR, rf_0_3 hR, rf_0_4 hR, rf_0_5 hR, rf_0_6 hR, rf_1_0 hR, rf_3_0 hR, rf_3_2 hR, rf_4_3 hR, rf_4_4 hR, rf_4_5 hR, rf_4_6 hR, rf_4_7 hR, rf_4_8 hR, rf_4_9 hR, rf_12_1 hR, rf_13_3 hR, rf_13_4 hR, rf_13_5 hR, rf_13_6 hR, rf_13_7 hR, rf_13_8 hR, rf_13_9 hR, rf_21_0 hR, rf_21_1 hR, rf_24_0 hR, rf_25_0 hR, rf_26_0 hR, rf_26_1 hR, rf_26_2 hR, rf_26_3 hR, rf_26_4 hR, rf_26_5 hR, rf_26_6 hR, rf_26_7 hR, rf_27_0 hR, rf_27_1 hR, rf_30_0 hR, rf_30_1 hR, rf_33_0 hR, rf_33_1 hR, rf_36_0 hR, rf_36_1 hR, rf_39_0 hR, rf_39_1 hR, rf_42_0 hR, rf_42_1 hR, rf_45_0 hR, rf_45_1 hR, rf_48_0 hR, rf_48_1 hR, rf_51_0 hR, rf_51_1 hR, rf_51_6 hR, rf_51_7 hR, rf_h_3 hR, rf_d_3 hR, rf_h_4 hR, rf_d_4 hR, rf_h_5 hR, rf_d_5 hR, rf_h_6 hR, rf_d_6 hR, rf_h_7 hR, rf_d_7 hR, rf_h_8 hR, rf_d_8 hR, rf_h_9 hR, rf_d_9 hR, rf_12_0 hR, rf_3_1 hR, kn_0, kn_1, kn_2, kn_3, kn_4, kn_5, kn_6, kn_7, kn_8, kn_9, kn_10, kn_11, kn_12, kn_13, kn_14, kn_15, kn_16, kn_17, kn_18, kn_19, kn_20, kn_21, kn_22, kn_23, kn_24, kn_25, kn_26, kn_27, kn_28, kn_29, kn_30, kn_31, kn_32, kn_33, kn_34, kn_35, kn_36, kn_37, kn_38, kn_39, kn_40, kn_41, kn_42, kn_43, kn_44, kn_45, kn_46, kn_47, kn_48, kn_49, kn_50, kn_51, kn_52, kn_53, kn_54, kn_55, ln_2, ln_5, ln_6, ln_7, ln_8, ln_9, ln_10, ln_11, ln_14, ln_15, ln_16, ln_17, ln_18, ln_19, ln_20, ln_22, ln_23, ln_26, ln_28, ln_29, ln_31, ln_32, ln_34, ln_35, ln_37, ln_38, ln_40, ln_41, ln_43, ln_44, ln_46, ln_47, ln_49, ln_50, ln_52, kn_h hR, lt_h hR, kn_h1 hR, ln_h1 hR, lt_h1 hR, kn_h2 hR, ln_h2 hR, lt_h2 hR, kn_h3 hR, ln_h3 hR, lt_h3 hR, kn_h4 hR, ln_h4 hR, lt_h4 hR, kn_h5 hR, ln_h5 hR, lt_h5 hR, kn_h6 hR, ln_h6 hR, lt_h6 hR, kn_h7 hR, ln_h7 hR, lt_h7 hR, kn_d hR, lt_d hR, kn_d1 hR, ln_d1 hR, lt_d1 hR, kn_d2 hR, ln_d2 hR, lt_d2 hR, kn_d3 hR, ln_d3 hR, lt_d3 hR, kn_d4 hR, ln_d4 hR, lt_d4 hR, kn_d5 hR, ln_d5 hR, lt_d5 hR, kn_d6 hR, ln_d6 hR, lt_d6 hR, kn_d7 hR, ln_d7 hR, lt_d7 hR, va_rf_some, push_s, push_n, nb0, nb1, nbb, Nat.reduceLT, p1, p2, e1, eq_false c, if_false, hnum, hit, th_num (show nt < 1000 by omega), b2i_0]
    cases c2 : thOk n tc nt p with
    | false =>
      rw [if_pos rfl]
      simp
    | true =>
      have hv := th_val c2
      have hlt : thV n tc p < nt := by
        unfold thOk at c2
        simp only [Bool.and_eq_true, decide_eq_true_eq] at c2
        exact c2.2
      have hb : bt (I d 10 ||| I d 11) (thV n tc p) = !decide (M 74 (thV n tc p) &&& 3 = 0) := by
        rw [b_or, hD.2.2.2.2.2.1.1 _ (by omega), hD.2.2.2.2.2.1.2.1 _ (by omega), decide_eq_true hlt, Bool.true_and, Bool.true_and]
        show ((!decide (M 74 (thV n tc p) &&& 1 = 0)) || (!decide (M 74 (thV n tc p) &&& 2 = 0))) = _
        by_cases g1 : M 74 (thV n tc p) &&& 1 = 0
        · by_cases g2 : M 74 (thV n tc p) &&& 2 = 0
          · rw [decide_eq_true g1, decide_eq_true g2, decide_eq_true (and_3.mpr ⟨g1, g2⟩)]
            rfl
          · rw [decide_eq_false g2, decide_eq_false (fun e => g2 (and_3.mp e).2)]
            simp
        · rw [decide_eq_false g1, decide_eq_false (fun e => g1 (and_3.mp e).1)]
          rfl
      have e6 : (6 : Int32) + nI (thV n tc p) = nI (6 + thV n tc p) := nI_add 6 _
      rw [if_neg (by decide)]
      simp only [hv, e_27_0, e_27_1, e_27_4, e_27_5, e_27_6, e_27_9, e_27_10, e_27_11, e_27_13, e_27_16, e_27_17, e_27_19, e_27_20, e_27_21, e_27_22, e_27_25, e_27_26, e_27_27, e_27_30, e_27_33, e_27_36, e_27_37, e_27_40, e_27_41, e_27_42, e_27_43, e_27_44, e_27_47, e_27_48, e_27_49, e_27_50, e_27_53, e_27_56, e_27_57, e_27_60, e_27_63, e_27_64, e_27_67, e_27_70, e_27_71, e_27_72, e_27_75, e_27_78, e_27_80, e_27_81, e_27_82, e_27_85, e_27_86, rf_0_0 hR, rf_0_1 hR, rf_0_2 hR, rf_0_3 hR, rf_0_4 hR, rf_0_5 hR, rf_0_6 hR, rf_1_0 hR, rf_3_0 hR, rf_3_2 hR, rf_4_3 hR, rf_4_4 hR, rf_4_5 hR, rf_4_6 hR, rf_4_7 hR, rf_4_8 hR, rf_4_9 hR, rf_12_1 hR, rf_13_3 hR, rf_13_4 hR, rf_13_5 hR, rf_13_6 hR, rf_13_7 hR, rf_13_8 hR, rf_13_9 hR, rf_21_0 hR, rf_21_1 hR, rf_24_0 hR, rf_25_0 hR, rf_26_0 hR, rf_26_1 hR, rf_26_2 hR, rf_26_3 hR, rf_26_4 hR, rf_26_5 hR, rf_26_6 hR, rf_26_7 hR, rf_27_0 hR, rf_27_1 hR, rf_30_0 hR, rf_30_1 hR, rf_33_0 hR, rf_33_1 hR, rf_36_0 hR, rf_36_1 hR, rf_39_0 hR, rf_39_1 hR, rf_42_0 hR, rf_42_1 hR, rf_45_0 hR, rf_45_1 hR, rf_48_0 hR, rf_48_1 hR, rf_51_0 hR, rf_51_1 hR, rf_51_6 hR, rf_51_7 hR, rf_h_3 hR, rf_d_3 hR, rf_h_4 hR, rf_d_4 hR, rf_h_5 hR, rf_d_5 hR, rf_h_6 hR, rf_d_6 hR, rf_h_7 hR, rf_d_7 hR, rf_h_8 hR, rf_d_8 hR, rf_h_9 hR, rf_d_9 hR, rf_12_0 hR, rf_3_1 hR, kn_0, kn_1, kn_2, kn_3, kn_4, kn_5, kn_6, kn_7, kn_8, kn_9, kn_10, kn_11, kn_12, kn_13, kn_14, kn_15, kn_16, kn_17, kn_18, kn_19, kn_20, kn_21, kn_22, kn_23, kn_24, kn_25, kn_26, kn_27, kn_28, kn_29, kn_30, kn_31, kn_32, kn_33, kn_34, kn_35, kn_36, kn_37, kn_38, kn_39, kn_40, kn_41, kn_42, kn_43, kn_44, kn_45, kn_46, kn_47, kn_48, kn_49, kn_50, kn_51, kn_52, kn_53, kn_54, kn_55, ln_2, ln_5, ln_6, ln_7, ln_8, ln_9, ln_10, ln_11, ln_14, ln_15, ln_16, ln_17, ln_18, ln_19, ln_20, ln_22, ln_23, ln_26, ln_28, ln_29, ln_31, ln_32, ln_34, ln_35, ln_37, ln_38, ln_40, ln_41, ln_43, ln_44, ln_46, ln_47, ln_49, ln_50, ln_52, kn_h hR, lt_h hR, kn_h1 hR, ln_h1 hR, lt_h1 hR, kn_h2 hR, ln_h2 hR, lt_h2 hR, kn_h3 hR, ln_h3 hR, lt_h3 hR, kn_h4 hR, ln_h4 hR, lt_h4 hR, kn_h5 hR, ln_h5 hR, lt_h5 hR, kn_h6 hR, ln_h6 hR, lt_h6 hR, kn_h7 hR, ln_h7 hR, lt_h7 hR, kn_d hR, lt_d hR, kn_d1 hR, ln_d1 hR, lt_d1 hR, kn_d2 hR, ln_d2 hR, lt_d2 hR, kn_d3 hR, ln_d3 hR, lt_d3 hR, kn_d4 hR, ln_d4 hR, lt_d4 hR, kn_d5 hR, ln_d5 hR, lt_d5 hR, kn_d6 hR, ln_d6 hR, lt_d6 hR, kn_d7 hR, ln_d7 hR, lt_d7 hR, va_rf_some, push_s, push_n, nb0, nb1, nbb, Nat.reduceLT, hxd, c_has (show thV n tc p < 32 by omega), hb, b2i_0, e6, Bool.true_and]
      cases c3 : (!decide (M 74 (thV n tc p) &&& 3 = 0)) with
      | false => simp
      | true =>
        rw [if_neg (by decide), if_pos rfl, cv, if_neg (show ¬ 10 + thV n tc p < 10 by omega), if_neg (show ¬ 10 + thV n tc p = 30 by omega), show 10 + thV n tc p - 4 = 6 + thV n tc p by omega]
end J2
