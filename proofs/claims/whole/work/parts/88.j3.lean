/-! ===== the class's reader: a thing ===== -/
def thS (I : Nat → Nat → Int32) (d nt : Nat) (a b c e : Int32) : Nat → Nat → Int32 := va_up (va_up (va_up (va_up I (d + 3) (upd (I (d + 3)) nt a)) (d + 4) (upd (I (d + 4)) nt b)) (d + 5) (upd (I (d + 5)) nt c)) (d + 6) (upd (I (d + 6)) nt e)
def bsd (B : Nat → Nat → Int32) (d f nt : Nat) (b : Bool) : Nat → Nat → Int32 := if b = true then va_up B d (upd (B d) f (B d f ||| (1 <<< (nI nt &&& 31)))) else B
section J3
variable {E : tm_Env} {Q : Option Int32 → tm_St → Prop} {M I B : Nat → Nat → Int32} {J : Nat → Nat → Int64} {R : Nat → Nat → Option Nat} {h d : Nat} {n p q nr nt f : Nat} {tc pp : Nat → Nat} {b : Bool}
theorem bsd_x {c : Nat} (hc : c ≠ d) : bsd B d f nt b c = B c := by
  unfold bsd
  split
  · rw [vu, if_neg hc]
  · rfl
theorem bsd_o {k : Nat} (hk : k ≠ f) : bsd B d f nt b d k = B d k := by
  unfold bsd
  split
  · rw [vu_eq, ud, if_neg hk]
  · rfl
theorem bsd_f (hnt : nt < 32) {t : Nat} (ht : t < 32) : bt (bsd B d f nt b d f) t = (bt (B d f) t || (b && decide (t = nt))) := by
  unfold bsd
  cases b with
  | true => rw [if_pos rfl, vu_eq, ud, if_pos rfl, bt_set hnt ht, Bool.true_and]
  | false => rw [if_neg (by decide), Bool.false_and, Bool.or_false]
theorem c_readThing (hR : tRef h d R) (hT : TXc I n tc) (hp : p < 800) (hD : DR M I d nr nt pp) (hok : (decide (nt < 16) && decide (97 ≤ cc n tc p ∧ cc n tc p ≤ 108) && adOk n tc (p + 1) && plOk M n tc nr nt (p + 2) && decide (49 ≤ cc n tc (p + 4) ∧ cc n tc (p + 4) ≤ 57)) = true) : tEv E 28 0 [.ref 3, tm_dum, tm_dum, tm_dum, tm_dum, tm_dum] [] (mS (hx I p) J R) Q = Q (some 1) (mS (hx (thS I d nt (nI (cc n tc p - 97)) (adV n tc (p + 1)) (nI (cv (plV n tc (p + 2)))) (nI (cc n tc (p + 4) - 48))) (p + 5)) J R) := by
  simp only [Bool.and_eq_true, decide_eq_true_eq] at hok
  obtain ⟨⟨⟨⟨k1, k2⟩, k3⟩, k4⟩, k5⟩ := hok
  have dd := dd_of hR
  have p1 := fun {Q} => c_pop3 (E := E) (Q := Q) (J := J) hR hT (show p < 1000 by omega)
  have p4 := fun {Q} => c_pop3 (E := E) (Q := Q) (J := J) hR hT (show p + 4 < 1000 by omega)
  have ra := fun {Q} => c_readAdj3 (E := E) (Q := Q) (J := J) hR hT (show p + 1 < 900 by omega)
  have rp := fun {Q} => c_readPlace (E := E) (Q := Q) (J := J) hR hT (show p + 2 < 900 by omega) hD
  rw [k3] at ra
  rw [k4] at rp
  have hc := cc_c (p := p) hT
  have hc4 := cc_c (p := p + 4) hT
  have hxd : ∀ k q I, k ≤ 7 → hx I q (d + k) = I (d + k) := fun k q I _ => hx_x (by omega)
  have hxd0 : ∀ q I, hx I q d = I d := fun q I => hx_x (by omega)
  have u3 : ∀ q I f, va_up (hx I q) (d + 3) f = hx (va_up I (d + 3) f) q := fun q I f => hx_up (by omega) f
  have u4 : ∀ q I f, va_up (hx I q) (d + 4) f = hx (va_up I (d + 4) f) q := fun q I f => hx_up (by omega) f
  have u5 : ∀ q I f, va_up (hx I q) (d + 5) f = hx (va_up I (d + 5) f) q := fun q I f => hx_up (by omega) f
  have u6 : ∀ q I f, va_up (hx I q) (d + 6) f = hx (va_up I (d + 6) f) q := fun q I f => hx_up (by omega) f
  have g3 : ∀ q I, hx I q (d + 3) = I (d + 3) := fun q I => hx_x (by omega)
  have g4 : ∀ q I, hx I q (d + 4) = I (d + 4) := fun q I => hx_x (by omega)
  have g5 : ∀ q I, hx I q (d + 5) = I (d + 5) := fun q I => hx_x (by omega)
  have g6 : ∀ q I, hx I q (d + 6) = I (d + 6) := fun q I => hx_x (by omega)
  have n43 : (d + 4 = d + 3) = False := eq_false (by omega)
  have n53 : (d + 5 = d + 3) = False := eq_false (by omega)
  have n54 : (d + 5 = d + 4) = False := eq_false (by omega)
  have n63 : (d + 6 = d + 3) = False := eq_false (by omega)
  have n64 : (d + 6 = d + 4) = False := eq_false (by omega)
  have n65 : (d + 6 = d + 5) = False := eq_false (by omega)
  have e16 : (nI nt < 16) = True := eq_true (nI_lt (b := 16) (by omega) (by omega))
  have a1 : nI (cc n tc p) - 97 = nI (cc n tc p - 97) := pk_sub (b := 97) (by omega)
  have a2 : (nI (cc n tc p - 97) < 0) = False := eq_false (nI_pos (by omega))
  have a3 : (nI (cc n tc p - 97) < 12) = True := eq_true (nI_lt (b := 12) (by omega) (by omega))
  have a4 : (adV n tc (p + 1) = -1) = False := eq_false (fun e => by
    unfold adV at e
    split at e
    · exact absurd e (by decide)
    · have := nI_pos (n := cc n tc (p + 1) - 97) (by have := cc_c (p := p + 1) hT; omega)
      rw [e] at this
      exact this (by decide))
  have hcv : cv (plV n tc (p + 2)) < 200 := by
    unfold plV dv thV dv
    have := cc_c (p := p + 2) hT
    have := cc_c (p := p + 2 + 1) hT
    have ht : cc n tc (p + 2) ≠ 114 → thV n tc (p + 2) < nt := fun e => by
      unfold plOk at k4
      rw [if_neg e] at k4
      unfold thOk at k4
      simp only [Bool.and_eq_true, decide_eq_true_eq] at k4
      exact k4.1.2
    split
    · unfold cv
      split
      · omega
      · split <;> omega
    · rename_i e
      have := ht e
      unfold thV dv at this
      unfold cv
      split
      · omega
      · split <;> omega
  have a5 : (nI (cv (plV n tc (p + 2))) = -1) = False := eq_false (fun e => by
    have := nI_pos (n := cv (plV n tc (p + 2))) (by omega)
    rw [e] at this
    exact this (by decide))
  have a6 : nI (cc n tc (p + 4)) - 48 = nI (cc n tc (p + 4) - 48) := pk_sub (b := 48) (by omega)
  have a7 : (nI (cc n tc (p + 4) - 48) < 1) = False := eq_false (fun e => by have := (nI_ltI (b := 1) (by omega) (by omega)).mp e; omega)
  have a8 : ((9 : Int32) < nI (cc n tc (p + 4) - 48)) = False := eq_false (fun e => by have := (nI_ltI (a := 9) (by omega) (by omega)).mp e; omega)
  have hix := inb_nI (j := nt) (n := 16) (by omega) (by decide)
  have hcl := nI_cl (n := nt) (by omega)
  have nar : ∀ v, vp_nar (tm_akt 13) v = v := fun _ => rfl
  have nar2 : ∀ v, vp_nar .int v = v := fun _ => rfl
  rw [show p + 2 + 2 = p + 4 by omega] at rp
  rw [show p + 1 + 1 = p + 2 by omega] at ra
  rw [show p + 4 + 1 = p + 5 by omega] at p4
  simp only [e_28_0, e_28_1, e_28_4, e_28_7, e_28_8, e_28_9, e_28_11, e_28_14, e_28_15, e_28_16, e_28_17, e_28_20, e_28_22, e_28_23, e_28_24, e_28_25, e_28_28, e_28_29, e_28_30, e_28_33, e_28_35, e_28_36, e_28_39, e_28_41, e_28_42, e_28_44, e_28_45, e_28_48, e_28_49, e_28_51, e_28_54, e_28_55, e_28_56, e_28_59, e_28_61, e_28_62, e_28_65, e_28_67, e_28_68, e_28_71, e_28_73, e_28_75, e_28_78, e_28_79, e_28_80, e_28_81, e_28_84, e_28_87, e_28_88, e_28_89, e_28_90, e_28_91, e_28_94, e_28_97, e_28_98, e_28_99, e_28_100, e_28_101, e_28_104, e_28_107, e_28_108, e_28_110, e_28_111, e_28_112, e_28_115, e_28_118, e_28_119, e_28_121, e_28_122, e_28_123, rf_0_0 hR, rf_0_1 hR, rf_0_2 hR, rf_0_3 hR, rf_0_4 hR, rf_0_5 hR, rf_0_6 hR, rf_1_0 hR, rf_3_0 hR, rf_3_2 hR, rf_4_3 hR, rf_4_4 hR, rf_4_5 hR, rf_4_6 hR, rf_4_7 hR, rf_4_8 hR, rf_4_9 hR, rf_12_1 hR, rf_13_3 hR, rf_13_4 hR, rf_13_5 hR, rf_13_6 hR, rf_13_7 hR, rf_13_8 hR, rf_13_9 hR, rf_21_0 hR, rf_21_1 hR, rf_24_0 hR, rf_25_0 hR, rf_26_0 hR, rf_26_1 hR, rf_26_2 hR, rf_26_3 hR, rf_26_4 hR, rf_26_5 hR, rf_26_6 hR, rf_26_7 hR, rf_27_0 hR, rf_27_1 hR, rf_30_0 hR, rf_30_1 hR, rf_33_0 hR, rf_33_1 hR, rf_36_0 hR, rf_36_1 hR, rf_39_0 hR, rf_39_1 hR, rf_42_0 hR, rf_42_1 hR, rf_45_0 hR, rf_45_1 hR, rf_48_0 hR, rf_48_1 hR, rf_51_0 hR, rf_51_1 hR, rf_51_6 hR, rf_51_7 hR, rf_h_3 hR, rf_d_3 hR, rf_h_4 hR, rf_d_4 hR, rf_h_5 hR, rf_d_5 hR, rf_h_6 hR, rf_d_6 hR, rf_h_7 hR, rf_d_7 hR, rf_h_8 hR, rf_d_8 hR, rf_h_9 hR, rf_d_9 hR, rf_12_0 hR, rf_3_1 hR, kn_0, kn_1, kn_2, kn_3, kn_4, kn_5, kn_6, kn_7, kn_8, kn_9, kn_10, kn_11, kn_12, kn_13, kn_14, kn_15, kn_16, kn_17, kn_18, kn_19, kn_20, kn_21, kn_22, kn_23, kn_24, kn_25, kn_26, kn_27, kn_28, kn_29, kn_30, kn_31, kn_32, kn_33, kn_34, kn_35, kn_36, kn_37, kn_38, kn_39, kn_40, kn_41, kn_42, kn_43, kn_44, kn_45, kn_46, kn_47, kn_48, kn_49, kn_50, kn_51, kn_52, kn_53, kn_54, kn_55, ln_2, ln_5, ln_6, ln_7, ln_8, ln_9, ln_10, ln_11, ln_14, ln_15, ln_16, ln_17, ln_18, ln_19, ln_20, ln_22, ln_23, ln_26, ln_28, ln_29, ln_31, ln_32, ln_34, ln_35, ln_37, ln_38, ln_40, ln_41, ln_43, ln_44, ln_46, ln_47, ln_49, ln_50, ln_52, kn_h hR, lt_h hR, kn_h1 hR, ln_h1 hR, lt_h1 hR, kn_h2 hR, ln_h2 hR, lt_h2 hR, kn_h3 hR, ln_h3 hR, lt_h3 hR, kn_h4 hR, ln_h4 hR, lt_h4 hR, kn_h5 hR, ln_h5 hR, lt_h5 hR, kn_h6 hR, ln_h6 hR, lt_h6 hR, kn_h7 hR, ln_h7 hR, lt_h7 hR, kn_d hR, lt_d hR, kn_d1 hR, ln_d1 hR, lt_d1 hR, kn_d2 hR, ln_d2 hR, lt_d2 hR, kn_d3 hR, ln_d3 hR, lt_d3 hR, kn_d4 hR, ln_d4 hR, lt_d4 hR, kn_d5 hR, ln_d5 hR, lt_d5 hR, kn_d6 hR, ln_d6 hR, lt_d6 hR, kn_d7 hR, ln_d7 hR, lt_d7 hR, va_rf_some, push_s, push_n, nb0, nb1, nbb, Nat.reduceLT, hxd0, hD.1.2.1, e16, if_true, p1, ra, rp, p4, a1, a2, a3, a4, a5, a6, a7, a8, if_false, g3, g4, g5, g6, hix, hcl, nar, nar2, u3, u4, u5, u6, vu, n43, n53, n54, n63, n64, n65]
  rfl
theorem c_readThing_0 (hR : tRef h d R) (hT : TXc I n tc) (hp : p < 800) (hD : DR M I d nr nt pp) (hok : (decide (nt < 16) && decide (97 ≤ cc n tc p ∧ cc n tc p ≤ 108) && adOk n tc (p + 1) && plOk M n tc nr nt (p + 2) && decide (49 ≤ cc n tc (p + 4) ∧ cc n tc (p + 4) ≤ 57)) = false) : ∃ q, ∀ Q, tEv E 28 0 [.ref 3, tm_dum, tm_dum, tm_dum, tm_dum, tm_dum] [] (mS (hx I p) J R) Q = Q (some 0) (mS (hx I q) J R) := by
  have dd := dd_of hR
  have h16 := hD.1.2.2.2
  have p1 := fun {Q} => c_pop3 (E := E) (Q := Q) (J := J) hR hT (show p < 1000 by omega)
  have p4 := fun {Q} => c_pop3 (E := E) (Q := Q) (J := J) hR hT (show p + 4 < 1000 by omega)
  have ra := fun {Q} => c_readAdj3 (E := E) (Q := Q) (J := J) hR hT (show p + 1 < 900 by omega)
  have rp := fun {Q} => c_readPlace (E := E) (Q := Q) (J := J) hR hT (show p + 2 < 900 by omega) hD
  have hc := cc_c (p := p) hT
  have hc4 := cc_c (p := p + 4) hT
  have hxd0 : ∀ q I, hx I q d = I d := fun q I => hx_x (by omega)
  rw [show p + 2 + 2 = p + 4 by omega] at rp
  rw [show p + 1 + 1 = p + 2 by omega] at ra
  rw [show p + 4 + 1 = p + 5 by omega] at p4
  by_cases k1 : nt < 16
  · have e16 : (nI nt < 16) = True := eq_true (nI_lt (b := 16) (by omega) (by omega))
    rw [decide_eq_true k1, Bool.true_and] at hok
    refine ⟨p + 5, fun Q => ?_⟩
    have s1 : (nI (cc n tc p) - 97 < 0) = (cc n tc p < 97) := sub_lt0 (k := 97) hc (by decide)
    have s2 : (nI (cc n tc p) - 97 < 12) = (cc n tc p < 109) := sub_lt (k := 97) (m := 12) hc (by decide) (by decide)
    have s3 : (nI (cc n tc (p + 4)) - 48 < 1) = (cc n tc (p + 4) < 49) := sub_lt (k := 48) (m := 1) hc4 (by decide) (by decide)
    have s4 : ((9 : Int32) < nI (cc n tc (p + 4)) - 48) = (57 < cc n tc (p + 4)) := lt_sub (k := 48) (m := 9) hc4 (by decide) (by decide)
    simp only [e_28_0, e_28_1, e_28_4, e_28_7, e_28_8, e_28_9, e_28_11, e_28_14, e_28_15, e_28_16, e_28_17, e_28_20, e_28_22, e_28_23, e_28_24, e_28_25, e_28_28, e_28_29, e_28_30, e_28_33, e_28_35, e_28_36, e_28_39, e_28_41, e_28_42, e_28_44, e_28_45, e_28_48, e_28_49, e_28_51, e_28_54, e_28_55, e_28_56, e_28_59, e_28_61, e_28_62, e_28_65, e_28_67, e_28_68, e_28_71, e_28_73, e_28_75, e_28_78, e_28_79, rf_0_0 hR, rf_0_1 hR, rf_0_2 hR, rf_0_3 hR, rf_0_4 hR, rf_0_5 hR, rf_0_6 hR, rf_1_0 hR, rf_3_0 hR, rf_3_2 hR, rf_4_3 hR, rf_4_4 hR, rf_4_5 hR, rf_4_6 hR, rf_4_7 hR, rf_4_8 hR, rf_4_9 hR, rf_12_1 hR, rf_13_3 hR, rf_13_4 hR, rf_13_5 hR, rf_13_6 hR, rf_13_7 hR, rf_13_8 hR, rf_13_9 hR, rf_21_0 hR, rf_21_1 hR, rf_24_0 hR, rf_25_0 hR, rf_26_0 hR, rf_26_1 hR, rf_26_2 hR, rf_26_3 hR, rf_26_4 hR, rf_26_5 hR, rf_26_6 hR, rf_26_7 hR, rf_27_0 hR, rf_27_1 hR, rf_30_0 hR, rf_30_1 hR, rf_33_0 hR, rf_33_1 hR, rf_36_0 hR, rf_36_1 hR, rf_39_0 hR, rf_39_1 hR, rf_42_0 hR, rf_42_1 hR, rf_45_0 hR, rf_45_1 hR, rf_48_0 hR, rf_48_1 hR, rf_51_0 hR, rf_51_1 hR, rf_51_6 hR, rf_51_7 hR, rf_h_3 hR, rf_d_3 hR, rf_h_4 hR, rf_d_4 hR, rf_h_5 hR, rf_d_5 hR, rf_h_6 hR, rf_d_6 hR, rf_h_7 hR, rf_d_7 hR, rf_h_8 hR, rf_d_8 hR, rf_h_9 hR, rf_d_9 hR, rf_12_0 hR, rf_3_1 hR, kn_0, kn_1, kn_2, kn_3, kn_4, kn_5, kn_6, kn_7, kn_8, kn_9, kn_10, kn_11, kn_12, kn_13, kn_14, kn_15, kn_16, kn_17, kn_18, kn_19, kn_20, kn_21, kn_22, kn_23, kn_24, kn_25, kn_26, kn_27, kn_28, kn_29, kn_30, kn_31, kn_32, kn_33, kn_34, kn_35, kn_36, kn_37, kn_38, kn_39, kn_40, kn_41, kn_42, kn_43, kn_44, kn_45, kn_46, kn_47, kn_48, kn_49, kn_50, kn_51, kn_52, kn_53, kn_54, kn_55, ln_2, ln_5, ln_6, ln_7, ln_8, ln_9, ln_10, ln_11, ln_14, ln_15, ln_16, ln_17, ln_18, ln_19, ln_20, ln_22, ln_23, ln_26, ln_28, ln_29, ln_31, ln_32, ln_34, ln_35, ln_37, ln_38, ln_40, ln_41, ln_43, ln_44, ln_46, ln_47, ln_49, ln_50, ln_52, kn_h hR, lt_h hR, kn_h1 hR, ln_h1 hR, lt_h1 hR, kn_h2 hR, ln_h2 hR, lt_h2 hR, kn_h3 hR, ln_h3 hR, lt_h3 hR, kn_h4 hR, ln_h4 hR, lt_h4 hR, kn_h5 hR, ln_h5 hR, lt_h5 hR, kn_h6 hR, ln_h6 hR, lt_h6 hR, kn_h7 hR, ln_h7 hR, lt_h7 hR, kn_d hR, lt_d hR, kn_d1 hR, ln_d1 hR, lt_d1 hR, kn_d2 hR, ln_d2 hR, lt_d2 hR, kn_d3 hR, ln_d3 hR, lt_d3 hR, kn_d4 hR, ln_d4 hR, lt_d4 hR, kn_d5 hR, ln_d5 hR, lt_d5 hR, kn_d6 hR, ln_d6 hR, lt_d6 hR, kn_d7 hR, ln_d7 hR, lt_d7 hR, va_rf_some, push_s, push_n, nb0, nb1, nbb, Nat.reduceLT, hxd0, hD.1.2.1, e16, if_true, p1, ra, rp, p4, s1, s2, s3, s4]
    by_cases k2 : cc n tc p < 97
    · rw [if_pos k2]
    · rw [if_neg k2]
      by_cases k3 : cc n tc p < 109
      · rw [if_pos k3]
        rw [decide_eq_true (show 97 ≤ cc n tc p ∧ cc n tc p ≤ 108 by omega), Bool.true_and] at hok
        cases k4 : adOk n tc (p + 1) with
        | false => rw [if_pos (by rfl)]
        | true =>
          rw [k4, Bool.true_and] at hok
          rw [if_pos rfl]
          by_cases k4b : adV n tc (p + 1) = -1
          · rw [if_pos k4b]
          · rw [if_neg k4b]
            cases k5 : plOk M n tc nr nt (p + 2) with
            | false => rw [if_pos (by rfl)]
            | true =>
              rw [k5, Bool.true_and] at hok
              rw [if_pos rfl]
              by_cases k5b : nI (cv (plV n tc (p + 2))) = -1
              · rw [if_pos k5b]
              · rw [if_neg k5b]
                have k6 := of_decide_eq_false hok
                by_cases k7 : cc n tc (p + 4) < 49
                · rw [if_pos k7]
                · rw [if_neg k7, if_pos (show 57 < cc n tc (p + 4) by omega)]
      · rw [if_neg k3]
  · have e16 : (nI nt < 16) = False := eq_false (fun e => k1 ((nI_ltI (b := 16) (by omega) (by omega)).mp e))
    exact ⟨p, fun Q => by simp only [e_28_0, e_28_1, e_28_4, e_28_7, e_28_8, e_28_9, e_28_11, e_28_14, e_28_15, rf_0_0 hR, rf_0_1 hR, rf_0_2 hR, rf_0_3 hR, rf_0_4 hR, rf_0_5 hR, rf_0_6 hR, rf_1_0 hR, rf_3_0 hR, rf_3_2 hR, rf_4_3 hR, rf_4_4 hR, rf_4_5 hR, rf_4_6 hR, rf_4_7 hR, rf_4_8 hR, rf_4_9 hR, rf_12_1 hR, rf_13_3 hR, rf_13_4 hR, rf_13_5 hR, rf_13_6 hR, rf_13_7 hR, rf_13_8 hR, rf_13_9 hR, rf_21_0 hR, rf_21_1 hR, rf_24_0 hR, rf_25_0 hR, rf_26_0 hR, rf_26_1 hR, rf_26_2 hR, rf_26_3 hR, rf_26_4 hR, rf_26_5 hR, rf_26_6 hR, rf_26_7 hR, rf_27_0 hR, rf_27_1 hR, rf_30_0 hR, rf_30_1 hR, rf_33_0 hR, rf_33_1 hR, rf_36_0 hR, rf_36_1 hR, rf_39_0 hR, rf_39_1 hR, rf_42_0 hR, rf_42_1 hR, rf_45_0 hR, rf_45_1 hR, rf_48_0 hR, rf_48_1 hR, rf_51_0 hR, rf_51_1 hR, rf_51_6 hR, rf_51_7 hR, rf_h_3 hR, rf_d_3 hR, rf_h_4 hR, rf_d_4 hR, rf_h_5 hR, rf_d_5 hR, rf_h_6 hR, rf_d_6 hR, rf_h_7 hR, rf_d_7 hR, rf_h_8 hR, rf_d_8 hR, rf_h_9 hR, rf_d_9 hR, rf_12_0 hR, rf_3_1 hR, kn_0, kn_1, kn_2, kn_3, kn_4, kn_5, kn_6, kn_7, kn_8, kn_9, kn_10, kn_11, kn_12, kn_13, kn_14, kn_15, kn_16, kn_17, kn_18, kn_19, kn_20, kn_21, kn_22, kn_23, kn_24, kn_25, kn_26, kn_27, kn_28, kn_29, kn_30, kn_31, kn_32, kn_33, kn_34, kn_35, kn_36, kn_37, kn_38, kn_39, kn_40, kn_41, kn_42, kn_43, kn_44, kn_45, kn_46, kn_47, kn_48, kn_49, kn_50, kn_51, kn_52, kn_53, kn_54, kn_55, ln_2, ln_5, ln_6, ln_7, ln_8, ln_9, ln_10, ln_11, ln_14, ln_15, ln_16, ln_17, ln_18, ln_19, ln_20, ln_22, ln_23, ln_26, ln_28, ln_29, ln_31, ln_32, ln_34, ln_35, ln_37, ln_38, ln_40, ln_41, ln_43, ln_44, ln_46, ln_47, ln_49, ln_50, ln_52, kn_h hR, lt_h hR, kn_h1 hR, ln_h1 hR, lt_h1 hR, kn_h2 hR, ln_h2 hR, lt_h2 hR, kn_h3 hR, ln_h3 hR, lt_h3 hR, kn_h4 hR, ln_h4 hR, lt_h4 hR, kn_h5 hR, ln_h5 hR, lt_h5 hR, kn_h6 hR, ln_h6 hR, lt_h6 hR, kn_h7 hR, ln_h7 hR, lt_h7 hR, kn_d hR, lt_d hR, kn_d1 hR, ln_d1 hR, lt_d1 hR, kn_d2 hR, ln_d2 hR, lt_d2 hR, kn_d3 hR, ln_d3 hR, lt_d3 hR, kn_d4 hR, ln_d4 hR, lt_d4 hR, kn_d5 hR, ln_d5 hR, lt_d5 hR, kn_d6 hR, ln_d6 hR, lt_d6 hR, kn_d7 hR, ln_d7 hR, lt_d7 hR, va_rf_some, push_s, push_n, nb0, nb1, nbb, Nat.reduceLT, hxd0, hD.1.2.1, e16, if_false]⟩
/-- the traits, one behind the other -/
theorem c_tA (hR : tRef h d R) (hT : TXc B n tc) (hq : q < 900) {l3 l4 : Value} : tEv E 31 12 [.ref 3, .int (nI nt), .int (1 <<< (nI nt &&& 31)), l3, l4] [] (mS (hx B q) J R) Q = tEv E 31 59 [.ref 3, .int (nI nt), .int (1 <<< (nI nt &&& 31)), l3, l4] [] (mS (hx (bsd (bsd B d 10 nt (decide (cc n tc q = 99))) d 11 nt (decide (cc n tc q = 115))) (t1P n tc q)) J R) Q := by
  have dd := dd_of hR
  have hxd0 : ∀ q I, hx I q d = I d := fun q I => hx_x (by omega)
  have hup : ∀ q I f, va_up (hx I q) d f = hx (va_up I d f) q := fun q I f => hx_up (by omega) f
  have s1 := fun {Q} => c_skip3 (E := E) (Q := Q) (J := J) hR hT (show q < 1000 by omega) (x := 99) (by decide)
  rw [show nI 99 = 99 from rfl] at s1
  unfold t1P
  by_cases c : cc n tc q = 99
  · have eo : op n tc 99 q = q + 1 := if_pos c
    have c2 : ¬ cc n tc q = 115 := by omega
    rw [eo] at s1
    simp only [e_31_13, e_31_15, e_31_18, e_31_21, e_31_22, e_31_25, e_31_26, e_31_29, e_31_30, e_31_31, e_31_34, e_31_12, rf_0_0 hR, rf_0_1 hR, rf_0_2 hR, rf_0_3 hR, rf_0_4 hR, rf_0_5 hR, rf_0_6 hR, rf_1_0 hR, rf_3_0 hR, rf_3_2 hR, rf_4_3 hR, rf_4_4 hR, rf_4_5 hR, rf_4_6 hR, rf_4_7 hR, rf_4_8 hR, rf_4_9 hR, rf_12_1 hR, rf_13_3 hR, rf_13_4 hR, rf_13_5 hR, rf_13_6 hR, rf_13_7 hR, rf_13_8 hR, rf_13_9 hR, rf_21_0 hR, rf_21_1 hR, rf_24_0 hR, rf_25_0 hR, rf_26_0 hR, rf_26_1 hR, rf_26_2 hR, rf_26_3 hR, rf_26_4 hR, rf_26_5 hR, rf_26_6 hR, rf_26_7 hR, rf_27_0 hR, rf_27_1 hR, rf_30_0 hR, rf_30_1 hR, rf_33_0 hR, rf_33_1 hR, rf_36_0 hR, rf_36_1 hR, rf_39_0 hR, rf_39_1 hR, rf_42_0 hR, rf_42_1 hR, rf_45_0 hR, rf_45_1 hR, rf_48_0 hR, rf_48_1 hR, rf_51_0 hR, rf_51_1 hR, rf_51_6 hR, rf_51_7 hR, rf_h_3 hR, rf_d_3 hR, rf_h_4 hR, rf_d_4 hR, rf_h_5 hR, rf_d_5 hR, rf_h_6 hR, rf_d_6 hR, rf_h_7 hR, rf_d_7 hR, rf_h_8 hR, rf_d_8 hR, rf_h_9 hR, rf_d_9 hR, rf_12_0 hR, rf_3_1 hR, kn_0, kn_1, kn_2, kn_3, kn_4, kn_5, kn_6, kn_7, kn_8, kn_9, kn_10, kn_11, kn_12, kn_13, kn_14, kn_15, kn_16, kn_17, kn_18, kn_19, kn_20, kn_21, kn_22, kn_23, kn_24, kn_25, kn_26, kn_27, kn_28, kn_29, kn_30, kn_31, kn_32, kn_33, kn_34, kn_35, kn_36, kn_37, kn_38, kn_39, kn_40, kn_41, kn_42, kn_43, kn_44, kn_45, kn_46, kn_47, kn_48, kn_49, kn_50, kn_51, kn_52, kn_53, kn_54, kn_55, ln_2, ln_5, ln_6, ln_7, ln_8, ln_9, ln_10, ln_11, ln_14, ln_15, ln_16, ln_17, ln_18, ln_19, ln_20, ln_22, ln_23, ln_26, ln_28, ln_29, ln_31, ln_32, ln_34, ln_35, ln_37, ln_38, ln_40, ln_41, ln_43, ln_44, ln_46, ln_47, ln_49, ln_50, ln_52, kn_h hR, lt_h hR, kn_h1 hR, ln_h1 hR, lt_h1 hR, kn_h2 hR, ln_h2 hR, lt_h2 hR, kn_h3 hR, ln_h3 hR, lt_h3 hR, kn_h4 hR, ln_h4 hR, lt_h4 hR, kn_h5 hR, ln_h5 hR, lt_h5 hR, kn_h6 hR, ln_h6 hR, lt_h6 hR, kn_h7 hR, ln_h7 hR, lt_h7 hR, kn_d hR, lt_d hR, kn_d1 hR, ln_d1 hR, lt_d1 hR, kn_d2 hR, ln_d2 hR, lt_d2 hR, kn_d3 hR, ln_d3 hR, lt_d3 hR, kn_d4 hR, ln_d4 hR, lt_d4 hR, kn_d5 hR, ln_d5 hR, lt_d5 hR, kn_d6 hR, ln_d6 hR, lt_d6 hR, kn_d7 hR, ln_d7 hR, lt_d7 hR, va_rf_some, push_s, push_n, nb0, nb1, nbb, Nat.reduceLT, s1, decide_eq_true c, show (b2i true = 0) = False from eq_false (by decide), if_false, hxd0, hup, decide_eq_false c2]
    rw [if_pos (Or.inl c)]
    unfold bsd
    rw [if_pos rfl, if_neg (by decide)]
  · have eo : op n tc 99 q = q := if_neg c
    rw [eo] at s1
    have s2 := fun {Q} => c_skip3 (E := E) (Q := Q) (J := J) hR hT (show q < 1000 by omega) (x := 115) (by decide)
    rw [show nI 115 = 115 from rfl] at s2
    have e0 : bsd B d 10 nt false = B := if_neg (by decide)
    by_cases c2 : cc n tc q = 115
    · have eo2 : op n tc 115 q = q + 1 := if_pos c2
      rw [eo2] at s2
      simp only [e_31_12, e_31_13, e_31_15, e_31_18, e_31_21, e_31_22, e_31_25, e_31_26, e_31_29, e_31_30, e_31_31, e_31_34, e_31_37, e_31_38, e_31_40, e_31_43, e_31_46, e_31_47, e_31_50, e_31_51, e_31_54, e_31_55, e_31_56, rf_0_0 hR, rf_0_1 hR, rf_0_2 hR, rf_0_3 hR, rf_0_4 hR, rf_0_5 hR, rf_0_6 hR, rf_1_0 hR, rf_3_0 hR, rf_3_2 hR, rf_4_3 hR, rf_4_4 hR, rf_4_5 hR, rf_4_6 hR, rf_4_7 hR, rf_4_8 hR, rf_4_9 hR, rf_12_1 hR, rf_13_3 hR, rf_13_4 hR, rf_13_5 hR, rf_13_6 hR, rf_13_7 hR, rf_13_8 hR, rf_13_9 hR, rf_21_0 hR, rf_21_1 hR, rf_24_0 hR, rf_25_0 hR, rf_26_0 hR, rf_26_1 hR, rf_26_2 hR, rf_26_3 hR, rf_26_4 hR, rf_26_5 hR, rf_26_6 hR, rf_26_7 hR, rf_27_0 hR, rf_27_1 hR, rf_30_0 hR, rf_30_1 hR, rf_33_0 hR, rf_33_1 hR, rf_36_0 hR, rf_36_1 hR, rf_39_0 hR, rf_39_1 hR, rf_42_0 hR, rf_42_1 hR, rf_45_0 hR, rf_45_1 hR, rf_48_0 hR, rf_48_1 hR, rf_51_0 hR, rf_51_1 hR, rf_51_6 hR, rf_51_7 hR, rf_h_3 hR, rf_d_3 hR, rf_h_4 hR, rf_d_4 hR, rf_h_5 hR, rf_d_5 hR, rf_h_6 hR, rf_d_6 hR, rf_h_7 hR, rf_d_7 hR, rf_h_8 hR, rf_d_8 hR, rf_h_9 hR, rf_d_9 hR, rf_12_0 hR, rf_3_1 hR, kn_0, kn_1, kn_2, kn_3, kn_4, kn_5, kn_6, kn_7, kn_8, kn_9, kn_10, kn_11, kn_12, kn_13, kn_14, kn_15, kn_16, kn_17, kn_18, kn_19, kn_20, kn_21, kn_22, kn_23, kn_24, kn_25, kn_26, kn_27, kn_28, kn_29, kn_30, kn_31, kn_32, kn_33, kn_34, kn_35, kn_36, kn_37, kn_38, kn_39, kn_40, kn_41, kn_42, kn_43, kn_44, kn_45, kn_46, kn_47, kn_48, kn_49, kn_50, kn_51, kn_52, kn_53, kn_54, kn_55, ln_2, ln_5, ln_6, ln_7, ln_8, ln_9, ln_10, ln_11, ln_14, ln_15, ln_16, ln_17, ln_18, ln_19, ln_20, ln_22, ln_23, ln_26, ln_28, ln_29, ln_31, ln_32, ln_34, ln_35, ln_37, ln_38, ln_40, ln_41, ln_43, ln_44, ln_46, ln_47, ln_49, ln_50, ln_52, kn_h hR, lt_h hR, kn_h1 hR, ln_h1 hR, lt_h1 hR, kn_h2 hR, ln_h2 hR, lt_h2 hR, kn_h3 hR, ln_h3 hR, lt_h3 hR, kn_h4 hR, ln_h4 hR, lt_h4 hR, kn_h5 hR, ln_h5 hR, lt_h5 hR, kn_h6 hR, ln_h6 hR, lt_h6 hR, kn_h7 hR, ln_h7 hR, lt_h7 hR, kn_d hR, lt_d hR, kn_d1 hR, ln_d1 hR, lt_d1 hR, kn_d2 hR, ln_d2 hR, lt_d2 hR, kn_d3 hR, ln_d3 hR, lt_d3 hR, kn_d4 hR, ln_d4 hR, lt_d4 hR, kn_d5 hR, ln_d5 hR, lt_d5 hR, kn_d6 hR, ln_d6 hR, lt_d6 hR, kn_d7 hR, ln_d7 hR, lt_d7 hR, va_rf_some, push_s, push_n, nb0, nb1, nbb, Nat.reduceLT, s1, decide_eq_false c, show (b2i false = 0) = True from eq_true rfl, if_true, s2, decide_eq_true c2, show (b2i true = 0) = False from eq_false (by decide), if_false, hxd0, hup, e0]
      rw [if_pos (Or.inr c2)]
      unfold bsd
      rw [if_pos rfl]
    · have eo2 : op n tc 115 q = q := if_neg c2
      rw [eo2] at s2
      have e1 : bsd B d 11 nt false = B := if_neg (by decide)
      simp only [e_31_12, e_31_13, e_31_15, e_31_18, e_31_21, e_31_22, e_31_25, e_31_26, e_31_29, e_31_30, e_31_31, e_31_34, e_31_37, e_31_38, e_31_40, e_31_43, e_31_46, e_31_47, e_31_50, e_31_51, e_31_54, e_31_55, e_31_56, rf_0_0 hR, rf_0_1 hR, rf_0_2 hR, rf_0_3 hR, rf_0_4 hR, rf_0_5 hR, rf_0_6 hR, rf_1_0 hR, rf_3_0 hR, rf_3_2 hR, rf_4_3 hR, rf_4_4 hR, rf_4_5 hR, rf_4_6 hR, rf_4_7 hR, rf_4_8 hR, rf_4_9 hR, rf_12_1 hR, rf_13_3 hR, rf_13_4 hR, rf_13_5 hR, rf_13_6 hR, rf_13_7 hR, rf_13_8 hR, rf_13_9 hR, rf_21_0 hR, rf_21_1 hR, rf_24_0 hR, rf_25_0 hR, rf_26_0 hR, rf_26_1 hR, rf_26_2 hR, rf_26_3 hR, rf_26_4 hR, rf_26_5 hR, rf_26_6 hR, rf_26_7 hR, rf_27_0 hR, rf_27_1 hR, rf_30_0 hR, rf_30_1 hR, rf_33_0 hR, rf_33_1 hR, rf_36_0 hR, rf_36_1 hR, rf_39_0 hR, rf_39_1 hR, rf_42_0 hR, rf_42_1 hR, rf_45_0 hR, rf_45_1 hR, rf_48_0 hR, rf_48_1 hR, rf_51_0 hR, rf_51_1 hR, rf_51_6 hR, rf_51_7 hR, rf_h_3 hR, rf_d_3 hR, rf_h_4 hR, rf_d_4 hR, rf_h_5 hR, rf_d_5 hR, rf_h_6 hR, rf_d_6 hR, rf_h_7 hR, rf_d_7 hR, rf_h_8 hR, rf_d_8 hR, rf_h_9 hR, rf_d_9 hR, rf_12_0 hR, rf_3_1 hR, kn_0, kn_1, kn_2, kn_3, kn_4, kn_5, kn_6, kn_7, kn_8, kn_9, kn_10, kn_11, kn_12, kn_13, kn_14, kn_15, kn_16, kn_17, kn_18, kn_19, kn_20, kn_21, kn_22, kn_23, kn_24, kn_25, kn_26, kn_27, kn_28, kn_29, kn_30, kn_31, kn_32, kn_33, kn_34, kn_35, kn_36, kn_37, kn_38, kn_39, kn_40, kn_41, kn_42, kn_43, kn_44, kn_45, kn_46, kn_47, kn_48, kn_49, kn_50, kn_51, kn_52, kn_53, kn_54, kn_55, ln_2, ln_5, ln_6, ln_7, ln_8, ln_9, ln_10, ln_11, ln_14, ln_15, ln_16, ln_17, ln_18, ln_19, ln_20, ln_22, ln_23, ln_26, ln_28, ln_29, ln_31, ln_32, ln_34, ln_35, ln_37, ln_38, ln_40, ln_41, ln_43, ln_44, ln_46, ln_47, ln_49, ln_50, ln_52, kn_h hR, lt_h hR, kn_h1 hR, ln_h1 hR, lt_h1 hR, kn_h2 hR, ln_h2 hR, lt_h2 hR, kn_h3 hR, ln_h3 hR, lt_h3 hR, kn_h4 hR, ln_h4 hR, lt_h4 hR, kn_h5 hR, ln_h5 hR, lt_h5 hR, kn_h6 hR, ln_h6 hR, lt_h6 hR, kn_h7 hR, ln_h7 hR, lt_h7 hR, kn_d hR, lt_d hR, kn_d1 hR, ln_d1 hR, lt_d1 hR, kn_d2 hR, ln_d2 hR, lt_d2 hR, kn_d3 hR, ln_d3 hR, lt_d3 hR, kn_d4 hR, ln_d4 hR, lt_d4 hR, kn_d5 hR, ln_d5 hR, lt_d5 hR, kn_d6 hR, ln_d6 hR, lt_d6 hR, kn_d7 hR, ln_d7 hR, lt_d7 hR, va_rf_some, push_s, push_n, nb0, nb1, nbb, Nat.reduceLT, s1, decide_eq_false c, show (b2i false = 0) = True from eq_true rfl, if_true, s2, decide_eq_false c2, e0, e1]
      rw [if_neg (fun e => e.elim c c2)]
theorem c_tB (hR : tRef h d R) (hT : TXc B n tc) (hq : q < 900) {l3 l4 : Value} : tEv E 31 59 [.ref 3, .int (nI nt), .int (1 <<< (nI nt &&& 31)), l3, l4] [] (mS (hx B q) J R) Q = tEv E 31 83 [.ref 3, .int (nI nt), .int (1 <<< (nI nt &&& 31)), .int (b2i (decide (cc n tc q = 111))), l4] [] (mS (hx (bsd B d 12 nt (decide (cc n tc q = 111))) (op n tc 111 q)) J R) Q := by
  have dd := dd_of hR
  have hxd0 : ∀ q I, hx I q d = I d := fun q I => hx_x (by omega)
  have hup : ∀ q I f, va_up (hx I q) d f = hx (va_up I d f) q := fun q I f => hx_up (by omega) f
  have s1 := fun {Q} => c_skip3 (E := E) (Q := Q) (J := J) hR hT (show q < 1000 by omega) (x := 111) (by decide)
  rw [show nI 111 = 111 from rfl] at s1
  simp only [e_31_59, e_31_60, e_31_62, e_31_65, e_31_66, e_31_67, e_31_70, e_31_71, e_31_74, e_31_75, e_31_78, e_31_79, e_31_80, rf_0_0 hR, rf_0_1 hR, rf_0_2 hR, rf_0_3 hR, rf_0_4 hR, rf_0_5 hR, rf_0_6 hR, rf_1_0 hR, rf_3_0 hR, rf_3_2 hR, rf_4_3 hR, rf_4_4 hR, rf_4_5 hR, rf_4_6 hR, rf_4_7 hR, rf_4_8 hR, rf_4_9 hR, rf_12_1 hR, rf_13_3 hR, rf_13_4 hR, rf_13_5 hR, rf_13_6 hR, rf_13_7 hR, rf_13_8 hR, rf_13_9 hR, rf_21_0 hR, rf_21_1 hR, rf_24_0 hR, rf_25_0 hR, rf_26_0 hR, rf_26_1 hR, rf_26_2 hR, rf_26_3 hR, rf_26_4 hR, rf_26_5 hR, rf_26_6 hR, rf_26_7 hR, rf_27_0 hR, rf_27_1 hR, rf_30_0 hR, rf_30_1 hR, rf_33_0 hR, rf_33_1 hR, rf_36_0 hR, rf_36_1 hR, rf_39_0 hR, rf_39_1 hR, rf_42_0 hR, rf_42_1 hR, rf_45_0 hR, rf_45_1 hR, rf_48_0 hR, rf_48_1 hR, rf_51_0 hR, rf_51_1 hR, rf_51_6 hR, rf_51_7 hR, rf_h_3 hR, rf_d_3 hR, rf_h_4 hR, rf_d_4 hR, rf_h_5 hR, rf_d_5 hR, rf_h_6 hR, rf_d_6 hR, rf_h_7 hR, rf_d_7 hR, rf_h_8 hR, rf_d_8 hR, rf_h_9 hR, rf_d_9 hR, rf_12_0 hR, rf_3_1 hR, kn_0, kn_1, kn_2, kn_3, kn_4, kn_5, kn_6, kn_7, kn_8, kn_9, kn_10, kn_11, kn_12, kn_13, kn_14, kn_15, kn_16, kn_17, kn_18, kn_19, kn_20, kn_21, kn_22, kn_23, kn_24, kn_25, kn_26, kn_27, kn_28, kn_29, kn_30, kn_31, kn_32, kn_33, kn_34, kn_35, kn_36, kn_37, kn_38, kn_39, kn_40, kn_41, kn_42, kn_43, kn_44, kn_45, kn_46, kn_47, kn_48, kn_49, kn_50, kn_51, kn_52, kn_53, kn_54, kn_55, ln_2, ln_5, ln_6, ln_7, ln_8, ln_9, ln_10, ln_11, ln_14, ln_15, ln_16, ln_17, ln_18, ln_19, ln_20, ln_22, ln_23, ln_26, ln_28, ln_29, ln_31, ln_32, ln_34, ln_35, ln_37, ln_38, ln_40, ln_41, ln_43, ln_44, ln_46, ln_47, ln_49, ln_50, ln_52, kn_h hR, lt_h hR, kn_h1 hR, ln_h1 hR, lt_h1 hR, kn_h2 hR, ln_h2 hR, lt_h2 hR, kn_h3 hR, ln_h3 hR, lt_h3 hR, kn_h4 hR, ln_h4 hR, lt_h4 hR, kn_h5 hR, ln_h5 hR, lt_h5 hR, kn_h6 hR, ln_h6 hR, lt_h6 hR, kn_h7 hR, ln_h7 hR, lt_h7 hR, kn_d hR, lt_d hR, kn_d1 hR, ln_d1 hR, lt_d1 hR, kn_d2 hR, ln_d2 hR, lt_d2 hR, kn_d3 hR, ln_d3 hR, lt_d3 hR, kn_d4 hR, ln_d4 hR, lt_d4 hR, kn_d5 hR, ln_d5 hR, lt_d5 hR, kn_d6 hR, ln_d6 hR, lt_d6 hR, kn_d7 hR, ln_d7 hR, lt_d7 hR, va_rf_some, push_s, push_n, nb0, nb1, nbb, Nat.reduceLT, s1, b2i_0, hxd0, hup]
  unfold bsd
  cases decide (cc n tc q = 111) <;> rfl
theorem c_tC (hR : tRef h d R) (hT : TXc B n tc) (hq : q < 900) {l3 l4 : Value} : tEv E 31 83 [.ref 3, .int (nI nt), .int (1 <<< (nI nt &&& 31)), l3, l4] [] (mS (hx B q) J R) Q = tEv E 31 105 [.ref 3, .int (nI nt), .int (1 <<< (nI nt &&& 31)), l3, l4] [] (mS (hx (bsd B d 13 nt (decide (cc n tc q = 102))) (op n tc 102 q)) J R) Q := by
  have dd := dd_of hR
  have hxd0 : ∀ q I, hx I q d = I d := fun q I => hx_x (by omega)
  have hup : ∀ q I f, va_up (hx I q) d f = hx (va_up I d f) q := fun q I f => hx_up (by omega) f
  have s1 := fun {Q} => c_skip3 (E := E) (Q := Q) (J := J) hR hT (show q < 1000 by omega) (x := 102) (by decide)
  rw [show nI 102 = 102 from rfl] at s1
  simp only [e_31_83, e_31_84, e_31_86, e_31_89, e_31_92, e_31_93, e_31_96, e_31_97, e_31_100, e_31_101, e_31_102, rf_0_0 hR, rf_0_1 hR, rf_0_2 hR, rf_0_3 hR, rf_0_4 hR, rf_0_5 hR, rf_0_6 hR, rf_1_0 hR, rf_3_0 hR, rf_3_2 hR, rf_4_3 hR, rf_4_4 hR, rf_4_5 hR, rf_4_6 hR, rf_4_7 hR, rf_4_8 hR, rf_4_9 hR, rf_12_1 hR, rf_13_3 hR, rf_13_4 hR, rf_13_5 hR, rf_13_6 hR, rf_13_7 hR, rf_13_8 hR, rf_13_9 hR, rf_21_0 hR, rf_21_1 hR, rf_24_0 hR, rf_25_0 hR, rf_26_0 hR, rf_26_1 hR, rf_26_2 hR, rf_26_3 hR, rf_26_4 hR, rf_26_5 hR, rf_26_6 hR, rf_26_7 hR, rf_27_0 hR, rf_27_1 hR, rf_30_0 hR, rf_30_1 hR, rf_33_0 hR, rf_33_1 hR, rf_36_0 hR, rf_36_1 hR, rf_39_0 hR, rf_39_1 hR, rf_42_0 hR, rf_42_1 hR, rf_45_0 hR, rf_45_1 hR, rf_48_0 hR, rf_48_1 hR, rf_51_0 hR, rf_51_1 hR, rf_51_6 hR, rf_51_7 hR, rf_h_3 hR, rf_d_3 hR, rf_h_4 hR, rf_d_4 hR, rf_h_5 hR, rf_d_5 hR, rf_h_6 hR, rf_d_6 hR, rf_h_7 hR, rf_d_7 hR, rf_h_8 hR, rf_d_8 hR, rf_h_9 hR, rf_d_9 hR, rf_12_0 hR, rf_3_1 hR, kn_0, kn_1, kn_2, kn_3, kn_4, kn_5, kn_6, kn_7, kn_8, kn_9, kn_10, kn_11, kn_12, kn_13, kn_14, kn_15, kn_16, kn_17, kn_18, kn_19, kn_20, kn_21, kn_22, kn_23, kn_24, kn_25, kn_26, kn_27, kn_28, kn_29, kn_30, kn_31, kn_32, kn_33, kn_34, kn_35, kn_36, kn_37, kn_38, kn_39, kn_40, kn_41, kn_42, kn_43, kn_44, kn_45, kn_46, kn_47, kn_48, kn_49, kn_50, kn_51, kn_52, kn_53, kn_54, kn_55, ln_2, ln_5, ln_6, ln_7, ln_8, ln_9, ln_10, ln_11, ln_14, ln_15, ln_16, ln_17, ln_18, ln_19, ln_20, ln_22, ln_23, ln_26, ln_28, ln_29, ln_31, ln_32, ln_34, ln_35, ln_37, ln_38, ln_40, ln_41, ln_43, ln_44, ln_46, ln_47, ln_49, ln_50, ln_52, kn_h hR, lt_h hR, kn_h1 hR, ln_h1 hR, lt_h1 hR, kn_h2 hR, ln_h2 hR, lt_h2 hR, kn_h3 hR, ln_h3 hR, lt_h3 hR, kn_h4 hR, ln_h4 hR, lt_h4 hR, kn_h5 hR, ln_h5 hR, lt_h5 hR, kn_h6 hR, ln_h6 hR, lt_h6 hR, kn_h7 hR, ln_h7 hR, lt_h7 hR, kn_d hR, lt_d hR, kn_d1 hR, ln_d1 hR, lt_d1 hR, kn_d2 hR, ln_d2 hR, lt_d2 hR, kn_d3 hR, ln_d3 hR, lt_d3 hR, kn_d4 hR, ln_d4 hR, lt_d4 hR, kn_d5 hR, ln_d5 hR, lt_d5 hR, kn_d6 hR, ln_d6 hR, lt_d6 hR, kn_d7 hR, ln_d7 hR, lt_d7 hR, va_rf_some, push_s, push_n, nb0, nb1, nbb, Nat.reduceLT, s1, b2i_0, hxd0, hup]
  unfold bsd
  cases decide (cc n tc q = 102) <;> rfl
theorem c_tD (hR : tRef h d R) (hT : TXc B n tc) (hq : q < 900) {l3 l4 : Value} : tEv E 31 105 [.ref 3, .int (nI nt), .int (1 <<< (nI nt &&& 31)), l3, l4] [] (mS (hx B q) J R) Q = tEv E 31 127 [.ref 3, .int (nI nt), .int (1 <<< (nI nt &&& 31)), l3, l4] [] (mS (hx (bsd B d 14 nt (decide (cc n tc q = 108))) (op n tc 108 q)) J R) Q := by
  have dd := dd_of hR
  have hxd0 : ∀ q I, hx I q d = I d := fun q I => hx_x (by omega)
  have hup : ∀ q I f, va_up (hx I q) d f = hx (va_up I d f) q := fun q I f => hx_up (by omega) f
  have s1 := fun {Q} => c_skip3 (E := E) (Q := Q) (J := J) hR hT (show q < 1000 by omega) (x := 108) (by decide)
  rw [show nI 108 = 108 from rfl] at s1
  simp only [e_31_105, e_31_106, e_31_108, e_31_111, e_31_114, e_31_115, e_31_118, e_31_119, e_31_122, e_31_123, e_31_124, rf_0_0 hR, rf_0_1 hR, rf_0_2 hR, rf_0_3 hR, rf_0_4 hR, rf_0_5 hR, rf_0_6 hR, rf_1_0 hR, rf_3_0 hR, rf_3_2 hR, rf_4_3 hR, rf_4_4 hR, rf_4_5 hR, rf_4_6 hR, rf_4_7 hR, rf_4_8 hR, rf_4_9 hR, rf_12_1 hR, rf_13_3 hR, rf_13_4 hR, rf_13_5 hR, rf_13_6 hR, rf_13_7 hR, rf_13_8 hR, rf_13_9 hR, rf_21_0 hR, rf_21_1 hR, rf_24_0 hR, rf_25_0 hR, rf_26_0 hR, rf_26_1 hR, rf_26_2 hR, rf_26_3 hR, rf_26_4 hR, rf_26_5 hR, rf_26_6 hR, rf_26_7 hR, rf_27_0 hR, rf_27_1 hR, rf_30_0 hR, rf_30_1 hR, rf_33_0 hR, rf_33_1 hR, rf_36_0 hR, rf_36_1 hR, rf_39_0 hR, rf_39_1 hR, rf_42_0 hR, rf_42_1 hR, rf_45_0 hR, rf_45_1 hR, rf_48_0 hR, rf_48_1 hR, rf_51_0 hR, rf_51_1 hR, rf_51_6 hR, rf_51_7 hR, rf_h_3 hR, rf_d_3 hR, rf_h_4 hR, rf_d_4 hR, rf_h_5 hR, rf_d_5 hR, rf_h_6 hR, rf_d_6 hR, rf_h_7 hR, rf_d_7 hR, rf_h_8 hR, rf_d_8 hR, rf_h_9 hR, rf_d_9 hR, rf_12_0 hR, rf_3_1 hR, kn_0, kn_1, kn_2, kn_3, kn_4, kn_5, kn_6, kn_7, kn_8, kn_9, kn_10, kn_11, kn_12, kn_13, kn_14, kn_15, kn_16, kn_17, kn_18, kn_19, kn_20, kn_21, kn_22, kn_23, kn_24, kn_25, kn_26, kn_27, kn_28, kn_29, kn_30, kn_31, kn_32, kn_33, kn_34, kn_35, kn_36, kn_37, kn_38, kn_39, kn_40, kn_41, kn_42, kn_43, kn_44, kn_45, kn_46, kn_47, kn_48, kn_49, kn_50, kn_51, kn_52, kn_53, kn_54, kn_55, ln_2, ln_5, ln_6, ln_7, ln_8, ln_9, ln_10, ln_11, ln_14, ln_15, ln_16, ln_17, ln_18, ln_19, ln_20, ln_22, ln_23, ln_26, ln_28, ln_29, ln_31, ln_32, ln_34, ln_35, ln_37, ln_38, ln_40, ln_41, ln_43, ln_44, ln_46, ln_47, ln_49, ln_50, ln_52, kn_h hR, lt_h hR, kn_h1 hR, ln_h1 hR, lt_h1 hR, kn_h2 hR, ln_h2 hR, lt_h2 hR, kn_h3 hR, ln_h3 hR, lt_h3 hR, kn_h4 hR, ln_h4 hR, lt_h4 hR, kn_h5 hR, ln_h5 hR, lt_h5 hR, kn_h6 hR, ln_h6 hR, lt_h6 hR, kn_h7 hR, ln_h7 hR, lt_h7 hR, kn_d hR, lt_d hR, kn_d1 hR, ln_d1 hR, lt_d1 hR, kn_d2 hR, ln_d2 hR, lt_d2 hR, kn_d3 hR, ln_d3 hR, lt_d3 hR, kn_d4 hR, ln_d4 hR, lt_d4 hR, kn_d5 hR, ln_d5 hR, lt_d5 hR, kn_d6 hR, ln_d6 hR, lt_d6 hR, kn_d7 hR, ln_d7 hR, lt_d7 hR, va_rf_some, push_s, push_n, nb0, nb1, nbb, Nat.reduceLT, s1, b2i_0, hxd0, hup]
  unfold bsd
  cases decide (cc n tc q = 108) <;> rfl
/-- what the traits leave -/
def trX (I : Nat → Nat → Int32) (n : Nat) (tc : Nat → Nat) (d nt p : Nat) : Nat → Nat → Int32 := bsd (bsd (bsd (bsd (bsd I d 10 nt (decide (cc n tc p = 99))) d 11 nt (decide (cc n tc p = 115))) d 12 nt (decide (cc n tc (trQ1 n tc p) = 111))) d 13 nt (decide (cc n tc (trQ2 n tc p) = 102))) d 14 nt (decide (cc n tc (trQ3 n tc p) = 108))
def trE (B : Nat → Nat → Int32) (d nt : Nat) (key : Int32) : Nat → Nat → Int32 := va_up (va_up B (d + 7) (upd (B (d + 7)) nt key)) d (upd (B d) 1 (nI (nt + 1)))
theorem frD_bsd (hd : frD I B d) : frD I (bsd B d f nt b) d := by
  unfold bsd
  split
  · exact frD_up hd ⟨Nat.le_refl _, by omega⟩
  · exact hd
theorem c_tE (hR : tRef h d R) (hk : B d 1 = nI nt) (hn : nt < 16) {l3 : Value} {l4 : Value} {key : Int32} (hq : q < 900) (h1 : ¬ key = -1) : tEv E 31 149 [.ref 3, .int (nI nt), .int (1 <<< (nI nt &&& 31)), l3, l4] [.int key] (mS (hx B q) J R) Q = Q (some 1) (mS (hx (trE (bsd B d 15 nt (!decide (key = -4))) d nt key) q) J R) := by
  have dd := dd_of hR
  have hxd0 : ∀ q I, hx I q d = I d := fun q I => hx_x (by omega)
  have hxd7 : ∀ q I, hx I q (d + 7) = I (d + 7) := fun q I => hx_x (by omega)
  have hup : ∀ q I f, va_up (hx I q) d f = hx (va_up I d f) q := fun q I f => hx_up (by omega) f
  have hup7 : ∀ q I f, va_up (hx I q) (d + 7) f = hx (va_up I (d + 7) f) q := fun q I f => hx_up (by omega) f
  have e16 : (nI nt < 16) = True := eq_true (nI_lt (b := 16) (by omega) (by omega))
  have hix := inb_nI (j := nt) (n := 16) (by omega) (by decide)
  have hcl := nI_cl (n := nt) (by omega)
  have nar2 : ∀ v, vp_nar .int v = v := fun _ => rfl
  have n7 : (d + 7 = d) = False := eq_false (by omega)
  have n7b : (d = d + 7) = False := eq_false (by omega)
  simp only [e_31_149, e_31_151, e_31_153, e_31_154, e_31_157, e_31_158, e_31_160, e_31_163, e_31_164, e_31_165, e_31_167, e_31_169, rf_0_0 hR, rf_0_1 hR, rf_0_2 hR, rf_0_3 hR, rf_0_4 hR, rf_0_5 hR, rf_0_6 hR, rf_1_0 hR, rf_3_0 hR, rf_3_2 hR, rf_4_3 hR, rf_4_4 hR, rf_4_5 hR, rf_4_6 hR, rf_4_7 hR, rf_4_8 hR, rf_4_9 hR, rf_12_1 hR, rf_13_3 hR, rf_13_4 hR, rf_13_5 hR, rf_13_6 hR, rf_13_7 hR, rf_13_8 hR, rf_13_9 hR, rf_21_0 hR, rf_21_1 hR, rf_24_0 hR, rf_25_0 hR, rf_26_0 hR, rf_26_1 hR, rf_26_2 hR, rf_26_3 hR, rf_26_4 hR, rf_26_5 hR, rf_26_6 hR, rf_26_7 hR, rf_27_0 hR, rf_27_1 hR, rf_30_0 hR, rf_30_1 hR, rf_33_0 hR, rf_33_1 hR, rf_36_0 hR, rf_36_1 hR, rf_39_0 hR, rf_39_1 hR, rf_42_0 hR, rf_42_1 hR, rf_45_0 hR, rf_45_1 hR, rf_48_0 hR, rf_48_1 hR, rf_51_0 hR, rf_51_1 hR, rf_51_6 hR, rf_51_7 hR, rf_h_3 hR, rf_d_3 hR, rf_h_4 hR, rf_d_4 hR, rf_h_5 hR, rf_d_5 hR, rf_h_6 hR, rf_d_6 hR, rf_h_7 hR, rf_d_7 hR, rf_h_8 hR, rf_d_8 hR, rf_h_9 hR, rf_d_9 hR, rf_12_0 hR, rf_3_1 hR, kn_0, kn_1, kn_2, kn_3, kn_4, kn_5, kn_6, kn_7, kn_8, kn_9, kn_10, kn_11, kn_12, kn_13, kn_14, kn_15, kn_16, kn_17, kn_18, kn_19, kn_20, kn_21, kn_22, kn_23, kn_24, kn_25, kn_26, kn_27, kn_28, kn_29, kn_30, kn_31, kn_32, kn_33, kn_34, kn_35, kn_36, kn_37, kn_38, kn_39, kn_40, kn_41, kn_42, kn_43, kn_44, kn_45, kn_46, kn_47, kn_48, kn_49, kn_50, kn_51, kn_52, kn_53, kn_54, kn_55, ln_2, ln_5, ln_6, ln_7, ln_8, ln_9, ln_10, ln_11, ln_14, ln_15, ln_16, ln_17, ln_18, ln_19, ln_20, ln_22, ln_23, ln_26, ln_28, ln_29, ln_31, ln_32, ln_34, ln_35, ln_37, ln_38, ln_40, ln_41, ln_43, ln_44, ln_46, ln_47, ln_49, ln_50, ln_52, kn_h hR, lt_h hR, kn_h1 hR, ln_h1 hR, lt_h1 hR, kn_h2 hR, ln_h2 hR, lt_h2 hR, kn_h3 hR, ln_h3 hR, lt_h3 hR, kn_h4 hR, ln_h4 hR, lt_h4 hR, kn_h5 hR, ln_h5 hR, lt_h5 hR, kn_h6 hR, ln_h6 hR, lt_h6 hR, kn_h7 hR, ln_h7 hR, lt_h7 hR, kn_d hR, lt_d hR, kn_d1 hR, ln_d1 hR, lt_d1 hR, kn_d2 hR, ln_d2 hR, lt_d2 hR, kn_d3 hR, ln_d3 hR, lt_d3 hR, kn_d4 hR, ln_d4 hR, lt_d4 hR, kn_d5 hR, ln_d5 hR, lt_d5 hR, kn_d6 hR, ln_d6 hR, lt_d6 hR, kn_d7 hR, ln_d7 hR, lt_d7 hR, va_rf_some, push_s, push_n, nb0, nb1, nbb, Nat.reduceLT, h1, if_false, e16, if_true]
  by_cases c : key = -4
  · rw [if_pos c, decide_eq_true c]
    have e0 : bsd B d 15 nt (!true) = B := if_neg (by decide)
    simp only [e_31_185, e_31_186, e_31_189, e_31_192, e_31_193, e_31_195, e_31_196, e_31_197, e_31_200, e_31_201, e_31_204, e_31_205, e_31_206, e_31_209, e_31_210, rf_0_0 hR, rf_0_1 hR, rf_0_2 hR, rf_0_3 hR, rf_0_4 hR, rf_0_5 hR, rf_0_6 hR, rf_1_0 hR, rf_3_0 hR, rf_3_2 hR, rf_4_3 hR, rf_4_4 hR, rf_4_5 hR, rf_4_6 hR, rf_4_7 hR, rf_4_8 hR, rf_4_9 hR, rf_12_1 hR, rf_13_3 hR, rf_13_4 hR, rf_13_5 hR, rf_13_6 hR, rf_13_7 hR, rf_13_8 hR, rf_13_9 hR, rf_21_0 hR, rf_21_1 hR, rf_24_0 hR, rf_25_0 hR, rf_26_0 hR, rf_26_1 hR, rf_26_2 hR, rf_26_3 hR, rf_26_4 hR, rf_26_5 hR, rf_26_6 hR, rf_26_7 hR, rf_27_0 hR, rf_27_1 hR, rf_30_0 hR, rf_30_1 hR, rf_33_0 hR, rf_33_1 hR, rf_36_0 hR, rf_36_1 hR, rf_39_0 hR, rf_39_1 hR, rf_42_0 hR, rf_42_1 hR, rf_45_0 hR, rf_45_1 hR, rf_48_0 hR, rf_48_1 hR, rf_51_0 hR, rf_51_1 hR, rf_51_6 hR, rf_51_7 hR, rf_h_3 hR, rf_d_3 hR, rf_h_4 hR, rf_d_4 hR, rf_h_5 hR, rf_d_5 hR, rf_h_6 hR, rf_d_6 hR, rf_h_7 hR, rf_d_7 hR, rf_h_8 hR, rf_d_8 hR, rf_h_9 hR, rf_d_9 hR, rf_12_0 hR, rf_3_1 hR, kn_0, kn_1, kn_2, kn_3, kn_4, kn_5, kn_6, kn_7, kn_8, kn_9, kn_10, kn_11, kn_12, kn_13, kn_14, kn_15, kn_16, kn_17, kn_18, kn_19, kn_20, kn_21, kn_22, kn_23, kn_24, kn_25, kn_26, kn_27, kn_28, kn_29, kn_30, kn_31, kn_32, kn_33, kn_34, kn_35, kn_36, kn_37, kn_38, kn_39, kn_40, kn_41, kn_42, kn_43, kn_44, kn_45, kn_46, kn_47, kn_48, kn_49, kn_50, kn_51, kn_52, kn_53, kn_54, kn_55, ln_2, ln_5, ln_6, ln_7, ln_8, ln_9, ln_10, ln_11, ln_14, ln_15, ln_16, ln_17, ln_18, ln_19, ln_20, ln_22, ln_23, ln_26, ln_28, ln_29, ln_31, ln_32, ln_34, ln_35, ln_37, ln_38, ln_40, ln_41, ln_43, ln_44, ln_46, ln_47, ln_49, ln_50, ln_52, kn_h hR, lt_h hR, kn_h1 hR, ln_h1 hR, lt_h1 hR, kn_h2 hR, ln_h2 hR, lt_h2 hR, kn_h3 hR, ln_h3 hR, lt_h3 hR, kn_h4 hR, ln_h4 hR, lt_h4 hR, kn_h5 hR, ln_h5 hR, lt_h5 hR, kn_h6 hR, ln_h6 hR, lt_h6 hR, kn_h7 hR, ln_h7 hR, lt_h7 hR, kn_d hR, lt_d hR, kn_d1 hR, ln_d1 hR, lt_d1 hR, kn_d2 hR, ln_d2 hR, lt_d2 hR, kn_d3 hR, ln_d3 hR, lt_d3 hR, kn_d4 hR, ln_d4 hR, lt_d4 hR, kn_d5 hR, ln_d5 hR, lt_d5 hR, kn_d6 hR, ln_d6 hR, lt_d6 hR, kn_d7 hR, ln_d7 hR, lt_d7 hR, va_rf_some, push_s, push_n, nb0, nb1, nbb, Nat.reduceLT, hxd0, hxd7, hix, hcl, nar2, hup, hup7, e0, vu, n7, n7b, if_true, if_false, hk, nI_1]
    rfl
  · rw [if_neg c, decide_eq_false c]
    have e0 : bsd B d 15 nt (!false) = va_up B d (upd (B d) 15 (B d 15 ||| (1 <<< (nI nt &&& 31)))) := if_pos rfl
    simp only [e_31_172, e_31_173, e_31_176, e_31_177, e_31_180, e_31_181, e_31_182, e_31_185, e_31_186, e_31_189, e_31_192, e_31_193, e_31_195, e_31_196, e_31_197, e_31_200, e_31_201, e_31_204, e_31_205, e_31_206, e_31_209, e_31_210, rf_0_0 hR, rf_0_1 hR, rf_0_2 hR, rf_0_3 hR, rf_0_4 hR, rf_0_5 hR, rf_0_6 hR, rf_1_0 hR, rf_3_0 hR, rf_3_2 hR, rf_4_3 hR, rf_4_4 hR, rf_4_5 hR, rf_4_6 hR, rf_4_7 hR, rf_4_8 hR, rf_4_9 hR, rf_12_1 hR, rf_13_3 hR, rf_13_4 hR, rf_13_5 hR, rf_13_6 hR, rf_13_7 hR, rf_13_8 hR, rf_13_9 hR, rf_21_0 hR, rf_21_1 hR, rf_24_0 hR, rf_25_0 hR, rf_26_0 hR, rf_26_1 hR, rf_26_2 hR, rf_26_3 hR, rf_26_4 hR, rf_26_5 hR, rf_26_6 hR, rf_26_7 hR, rf_27_0 hR, rf_27_1 hR, rf_30_0 hR, rf_30_1 hR, rf_33_0 hR, rf_33_1 hR, rf_36_0 hR, rf_36_1 hR, rf_39_0 hR, rf_39_1 hR, rf_42_0 hR, rf_42_1 hR, rf_45_0 hR, rf_45_1 hR, rf_48_0 hR, rf_48_1 hR, rf_51_0 hR, rf_51_1 hR, rf_51_6 hR, rf_51_7 hR, rf_h_3 hR, rf_d_3 hR, rf_h_4 hR, rf_d_4 hR, rf_h_5 hR, rf_d_5 hR, rf_h_6 hR, rf_d_6 hR, rf_h_7 hR, rf_d_7 hR, rf_h_8 hR, rf_d_8 hR, rf_h_9 hR, rf_d_9 hR, rf_12_0 hR, rf_3_1 hR, kn_0, kn_1, kn_2, kn_3, kn_4, kn_5, kn_6, kn_7, kn_8, kn_9, kn_10, kn_11, kn_12, kn_13, kn_14, kn_15, kn_16, kn_17, kn_18, kn_19, kn_20, kn_21, kn_22, kn_23, kn_24, kn_25, kn_26, kn_27, kn_28, kn_29, kn_30, kn_31, kn_32, kn_33, kn_34, kn_35, kn_36, kn_37, kn_38, kn_39, kn_40, kn_41, kn_42, kn_43, kn_44, kn_45, kn_46, kn_47, kn_48, kn_49, kn_50, kn_51, kn_52, kn_53, kn_54, kn_55, ln_2, ln_5, ln_6, ln_7, ln_8, ln_9, ln_10, ln_11, ln_14, ln_15, ln_16, ln_17, ln_18, ln_19, ln_20, ln_22, ln_23, ln_26, ln_28, ln_29, ln_31, ln_32, ln_34, ln_35, ln_37, ln_38, ln_40, ln_41, ln_43, ln_44, ln_46, ln_47, ln_49, ln_50, ln_52, kn_h hR, lt_h hR, kn_h1 hR, ln_h1 hR, lt_h1 hR, kn_h2 hR, ln_h2 hR, lt_h2 hR, kn_h3 hR, ln_h3 hR, lt_h3 hR, kn_h4 hR, ln_h4 hR, lt_h4 hR, kn_h5 hR, ln_h5 hR, lt_h5 hR, kn_h6 hR, ln_h6 hR, lt_h6 hR, kn_h7 hR, ln_h7 hR, lt_h7 hR, kn_d hR, lt_d hR, kn_d1 hR, ln_d1 hR, lt_d1 hR, kn_d2 hR, ln_d2 hR, lt_d2 hR, kn_d3 hR, ln_d3 hR, lt_d3 hR, kn_d4 hR, ln_d4 hR, lt_d4 hR, kn_d5 hR, ln_d5 hR, lt_d5 hR, kn_d6 hR, ln_d6 hR, lt_d6 hR, kn_d7 hR, ln_d7 hR, lt_d7 hR, va_rf_some, push_s, push_n, nb0, nb1, nbb, Nat.reduceLT, hxd0, hxd7, hix, hcl, nar2, hup, hup7, e0, vu, ud, n7, n7b, if_true, if_false, hk, nI_1, Nat.reduceEqDiff]
    unfold trE
    simp only [vu, n7, n7b, if_false, if_true]
end J3
