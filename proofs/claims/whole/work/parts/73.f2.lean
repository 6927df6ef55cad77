/-! ===== the class: settle ===== -/
def gpar (I : Nat → Nat → Int32) (pl : Nat → Nat) (nt a : Nat) (s : Int32) (x y : Nat) : Bool := (if of2 a = true then bt s y else y == x) && decide (mwhy I pl nt a x y = 0)
def gC (I : Nat → Nat → Int32) (pl : Nat → Nat) (nt a : Nat) (f0 f1 : Int32) (x : Nat) : Bool := bt f0 x && anyb (gpar I pl nt a f1 x) nt
/-- the class's set of partners -/
def cpt (I : Nat → Nat → Int32) (pl : Nat → Nat) (nt a : Nat) (f1 : Int32) (x : Nat) : Int32 := if of2 a = true then so (gpar I pl nt a f1 x) nt else if mwhy I pl nt a x x = 0 then 1 else 0
def inN (nt : Nat) (s : Int32) : Prop := (∀ t, nt ≤ t → t < 32 → bt s t = false) ∧ anyb (bt s) nt = true
theorem ct_uniq {p : Nat → Bool} {n : Nat} (h : ct p n = 1) : low p n < n ∧ p (low p n) = true ∧ ∀ x, x < n → p x = true → x = low p n := by
  have ha : anyb p n = true := by
    cases q : anyb p n with
    | true => rfl
    | false =>
      rw [ct_0.mpr q] at h
      cases h
  obtain ⟨h1, h2, -⟩ := low_spec ha
  refine ⟨h1, h2, fun x hx hp => ?_⟩
  by_cases e : x = low p n
  · exact e
  · exfalso
    have e1 := ct_less h2 h1
    rw [h] at e1
    have e2 : ct (fun i => p i && !(i == low p n)) n = 0 := by omega
    have e3 := ct_0.mp e2
    have : anyb (fun i => p i && !(i == low p n)) n = true := anyb_iff.mpr ⟨x, hx, by simp [hp, e]⟩
    rw [e3] at this
    cases this
theorem inN_16 {nt : Nat} {s : Int32} (h16 : nt ≤ 16) (h : inN nt s) : anyb (bt s) 16 = true ∧ low (bt s) 16 < nt := by
  obtain ⟨x, h1, h2⟩ := anyb_iff.mp h.2
  have ha : anyb (bt s) 16 = true := anyb_iff.mpr ⟨x, by omega, h2⟩
  refine ⟨ha, ?_⟩
  obtain ⟨g1, g2, -⟩ := low_spec ha
  rcases Nat.lt_or_ge (low (bt s) 16) nt with c | c
  · exact c
  · rw [h.1 _ c (by omega)] at g2
    cases g2
section F2
variable {E : tm_Env} {Q : Option Int32 → tm_St → Prop} {I : Nat → Nat → Int32} {J : Nat → Nat → Int64} {R : Nat → Nat → Option Nat} {h d : Nat} {nr nt y : Nat} {pl : Nat → Nat}
theorem cpt_0 {a x : Nat} {f1 : Int32} (h16 : nt ≤ 16) (hx : x < nt) : (cpt I pl nt a f1 x = 0) = (anyb (gpar I pl nt a f1 x) nt = false) := by
  unfold cpt
  cases c : of2 a with
  | true =>
    rw [if_pos rfl]
    exact so_any (by omega)
  | false =>
    rw [if_neg (by decide)]
    apply propext
    constructor
    · intro e
      cases q : anyb (gpar I pl nt a f1 x) nt with
      | false => rfl
      | true =>
        obtain ⟨k, h1, h2⟩ := anyb_iff.mp q
        unfold gpar at h2
        rw [c, if_neg (by decide), Bool.and_eq_true, beq_iff_eq, decide_eq_true_eq] at h2
        rw [if_pos (by rw [← h2.2, h2.1])] at e
        exact absurd e (by decide)
    · intro e
      rw [if_neg]
      intro q
      have : anyb (gpar I pl nt a f1 x) nt = true := anyb_iff.mpr ⟨x, hx, by
        unfold gpar
        rw [c, if_neg (by decide), q]
        simp⟩
      rw [e] at this
      cases this
/-- what stands in the second register of the loop -/
def stP (I : Nat → Nat → Int32) (pl : Nat → Nat) (nt a : Nat) (f1 : Int32) (g : Nat → Bool) (i : Nat) (p : Int32) : Prop := (anyb g i = false → p = 0) ∧ ∀ x, x < i → g x = true → (∀ x', x' < i → g x' = true → x' = x) → p = cpt I pl nt a f1 x
theorem c_settle_loop (hR : tRef h d R) (hC : RR I h nr nt y pl) (hO : mO I nt) {a : Nat} {f0 f1 s1 : Int32} (ha : a < 12) (h1 : I 55 1 = nI a) (h3 : I 55 3 = f0) (h4 : I 55 4 = s1) (hf : ∀ t, nt ≤ t → t < 32 → bt f0 t = false) (hs2 : of2 a = true → s1 = f1) (hs1 : of2 a = false → s1 = 1) : ∀ j i acc p l4, i + j = 16 → acc = so (fun t => decide (t < nt) && gC I pl nt a f0 f1 t) i → stP I pl nt a f1 (fun t => decide (t < nt) && gC I pl nt a f0 f1 t) i p → ∃ p' l4', stP I pl nt a f1 (fun t => decide (t < nt) && gC I pl nt a f0 f1 t) 16 p' ∧ ∀ Q, tEv E 119 6 [.ref 0, .int acc, .int p, .int (nI i), l4] [] (mS I J R) Q = tEv E 119 74 [.ref 0, .int (so (gC I pl nt a f0 f1) nt), .int p', .int (nI 16), l4'] [] (mS I J R) Q
  | 0, i, acc, p, l4, hj, hac, hp => by
    have h16 := RR_16 hC
    obtain rfl : i = 16 := by omega
    have hn : (nI 16 < (16 : Int32)) = False := eq_false (by decide)
    refine ⟨p, l4, hp, fun Q => ?_⟩
    rw [e_119_6]
    simp only [e_119_7, e_119_9, e_119_12, e_119_13, e_119_16, e_119_19, e_119_20, e_119_23, e_119_26, e_119_27, e_119_30, e_119_31, e_119_34, e_119_37, e_119_38, e_119_39, e_119_42, e_119_45, e_119_48, e_119_51, e_119_52, e_119_54, e_119_56, e_119_59, e_119_60, e_119_61, e_119_62, e_119_63, e_119_64, e_119_65, e_119_67, e_119_68, e_119_71, hn, if_false]
    rw [hac, so_cut h16]
  | j + 1, i, acc, p, l4, hj, hac, hp => by
    have h16 := RR_16 hC
    have hn : (nI i < (16 : Int32)) = True := eq_true (nI_lt (b := 16) (by omega) (by omega))
    have fin : ∀ (v : Int32), (v = 0 ↔ (decide (i < nt) && gC I pl nt a f0 f1 i) = false) → ((decide (i < nt) && gC I pl nt a f0 f1 i) = true → v = cpt I pl nt a f1 i) → (∀ Q, tEv E 119 6 [.ref 0, .int acc, .int p, .int (nI i), l4] [] (mS I J R) Q = tEv E 119 52 [.ref 0, .int acc, .int p, .int (nI i), l4] [.int v] (mS I J R) Q) → ∃ p' l4', stP I pl nt a f1 (fun t => decide (t < nt) && gC I pl nt a f0 f1 t) 16 p' ∧ ∀ Q, tEv E 119 6 [.ref 0, .int acc, .int p, .int (nI i), l4] [] (mS I J R) Q = tEv E 119 74 [.ref 0, .int (so (gC I pl nt a f0 f1) nt), .int p', .int (nI 16), l4'] [] (mS I J R) Q := fun v hv hv2 hq => by
      by_cases c : v = 0
      · have hg := hv.mp c
        obtain ⟨p', l4', g1, g2⟩ := c_settle_loop hR hC hO ha h1 h3 h4 hf hs2 hs1 j (i + 1) acc p (.int v) (by omega) (by rw [so, hac, if_neg (by rw [hg]; decide), Int32.or_zero]) ⟨fun q => hp.1 (by
          cases q2 : anyb (fun t => decide (t < nt) && gC I pl nt a f0 f1 t) i with
          | false => rfl
          | true => rw [anyb, q2, Bool.true_or] at q; cases q), fun x hx hgx hu => hp.2 x (by
            by_cases e : x = i
            · subst e
              have hgx2 : (decide (x < nt) && gC I pl nt a f0 f1 x) = true := hgx
              rw [hg] at hgx2
              cases hgx2
            · omega) hgx (fun x' hx' => hu x' (by omega))⟩
        refine ⟨p', l4', g1, fun Q => ?_⟩
        rw [hq Q]
        simp only [e_119_52, e_119_54, e_119_56, e_119_59, e_119_60, e_119_61, e_119_62, e_119_63, e_119_64, e_119_65, e_119_67, e_119_68, e_119_71, c, if_true, nI_1]
        have := g2 Q
        rw [c] at this
        exact this
      · have hg : (decide (i < nt) && gC I pl nt a f0 f1 i) = true := by
          cases q : (decide (i < nt) && gC I pl nt a f0 f1 i) with
          | true => rfl
          | false => exact absurd (hv.mpr q) c
        obtain ⟨p', l4', g1, g2⟩ := c_settle_loop hR hC hO ha h1 h3 h4 hf hs2 hs1 j (i + 1) (acc ||| (1 <<< (nI i &&& 31))) v (.int v) (by omega) (by rw [so, hac, if_pos hg]) ⟨fun q => (by
          rw [anyb, hg, Bool.or_true] at q
          cases q), fun x hx hgx hu => by
          have := hu i (by omega) hg
          rw [← this]
          exact hv2 hg⟩
        refine ⟨p', l4', g1, fun Q => ?_⟩
        rw [hq Q]
        simp only [e_119_52, e_119_54, e_119_56, e_119_59, e_119_60, e_119_61, e_119_62, e_119_63, e_119_64, e_119_65, e_119_67, e_119_68, e_119_71, c, if_false, nI_1]
        exact g2 Q
    cases c1 : bt f0 i with
    | false =>
      refine fin 0 ⟨fun _ => ?_, fun _ => rfl⟩ (fun q => ?_) (fun Q => ?_)
      · unfold gC
        rw [c1, Bool.false_and, Bool.and_false]
      · unfold gC at q
        rw [c1, Bool.false_and, Bool.and_false] at q
        cases q
      · rw [e_119_6]
        simp only [e_119_7, e_119_9, e_119_12, e_119_13, e_119_16, e_119_19, e_119_20, e_119_23, e_119_26, e_119_27, e_119_30, e_119_31, e_119_34, e_119_37, e_119_38, e_119_39, e_119_42, e_119_45, e_119_48, e_119_51, rf_0_0 hR, rf_0_1 hR, rf_0_2 hR, rf_0_3 hR, rf_0_4 hR, rf_0_5 hR, rf_0_6 hR, rf_1_0 hR, rf_3_0 hR, rf_3_2 hR, rf_4_3 hR, rf_4_4 hR, rf_4_5 hR, rf_4_6 hR, rf_4_7 hR, rf_4_8 hR, rf_4_9 hR, rf_12_1 hR, rf_13_3 hR, rf_13_4 hR, rf_13_5 hR, rf_13_6 hR, rf_13_7 hR, rf_13_8 hR, rf_13_9 hR, rf_21_0 hR, rf_21_1 hR, rf_24_0 hR, rf_25_0 hR, rf_26_0 hR, rf_26_1 hR, rf_26_2 hR, rf_26_3 hR, rf_26_4 hR, rf_26_5 hR, rf_26_6 hR, rf_26_7 hR, rf_27_0 hR, rf_27_1 hR, rf_30_0 hR, rf_30_1 hR, rf_33_0 hR, rf_33_1 hR, rf_36_0 hR, rf_36_1 hR, rf_39_0 hR, rf_39_1 hR, rf_42_0 hR, rf_42_1 hR, rf_45_0 hR, rf_45_1 hR, rf_48_0 hR, rf_48_1 hR, rf_51_0 hR, rf_51_1 hR, rf_51_6 hR, rf_51_7 hR, rf_h_3 hR, rf_d_3 hR, rf_h_4 hR, rf_d_4 hR, rf_h_5 hR, rf_d_5 hR, rf_h_6 hR, rf_d_6 hR, rf_h_7 hR, rf_d_7 hR, rf_h_8 hR, rf_d_8 hR, rf_h_9 hR, rf_d_9 hR, rf_12_0 hR, rf_3_1 hR, kn_0, kn_1, kn_2, kn_3, kn_4, kn_5, kn_6, kn_7, kn_8, kn_9, kn_10, kn_11, kn_12, kn_13, kn_14, kn_15, kn_16, kn_17, kn_18, kn_19, kn_20, kn_21, kn_22, kn_23, kn_24, kn_25, kn_26, kn_27, kn_28, kn_29, kn_30, kn_31, kn_32, kn_33, kn_34, kn_35, kn_36, kn_37, kn_38, kn_39, kn_40, kn_41, kn_42, kn_43, kn_44, kn_45, kn_46, kn_47, kn_48, kn_49, kn_50, kn_51, kn_52, kn_53, kn_54, kn_55, ln_2, ln_5, ln_6, ln_7, ln_8, ln_9, ln_10, ln_11, ln_14, ln_15, ln_16, ln_17, ln_18, ln_19, ln_20, ln_22, ln_23, ln_26, ln_28, ln_29, ln_31, ln_32, ln_34, ln_35, ln_37, ln_38, ln_40, ln_41, ln_43, ln_44, ln_46, ln_47, ln_49, ln_50, ln_52, kn_h hR, lt_h hR, kn_h1 hR, ln_h1 hR, lt_h1 hR, kn_h2 hR, ln_h2 hR, lt_h2 hR, kn_h3 hR, ln_h3 hR, lt_h3 hR, kn_h4 hR, ln_h4 hR, lt_h4 hR, kn_h5 hR, ln_h5 hR, lt_h5 hR, kn_h6 hR, ln_h6 hR, lt_h6 hR, kn_h7 hR, ln_h7 hR, lt_h7 hR, kn_d hR, lt_d hR, kn_d1 hR, ln_d1 hR, lt_d1 hR, kn_d2 hR, ln_d2 hR, lt_d2 hR, kn_d3 hR, ln_d3 hR, lt_d3 hR, kn_d4 hR, ln_d4 hR, lt_d4 hR, kn_d5 hR, ln_d5 hR, lt_d5 hR, kn_d6 hR, ln_d6 hR, lt_d6 hR, kn_d7 hR, ln_d7 hR, lt_d7 hR, va_rf_some, push_s, push_n, nb0, nb1, nbb, Nat.reduceLT, hn, if_true, h3, c_has (show i < 32 by omega), c1, b2i_0]
    | true =>
      have hi : i < nt := by
        rcases Nat.lt_or_ge i nt with q | q
        · exact q
        · rw [hf i q (by omega)] at c1; cases c1
      refine fin (cpt I pl nt a f1 i) ?_ (fun _ => rfl) (fun Q => ?_)
      · rw [cpt_0 h16 hi, decide_eq_true hi, Bool.true_and]
        unfold gC
        rw [c1, Bool.true_and]
      · rw [e_119_6]
        simp only [e_119_7, e_119_9, e_119_12, e_119_13, e_119_16, e_119_19, e_119_20, e_119_23, e_119_26, e_119_27, e_119_30, e_119_31, e_119_34, e_119_37, e_119_38, e_119_39, e_119_42, e_119_45, e_119_48, e_119_51, rf_0_0 hR, rf_0_1 hR, rf_0_2 hR, rf_0_3 hR, rf_0_4 hR, rf_0_5 hR, rf_0_6 hR, rf_1_0 hR, rf_3_0 hR, rf_3_2 hR, rf_4_3 hR, rf_4_4 hR, rf_4_5 hR, rf_4_6 hR, rf_4_7 hR, rf_4_8 hR, rf_4_9 hR, rf_12_1 hR, rf_13_3 hR, rf_13_4 hR, rf_13_5 hR, rf_13_6 hR, rf_13_7 hR, rf_13_8 hR, rf_13_9 hR, rf_21_0 hR, rf_21_1 hR, rf_24_0 hR, rf_25_0 hR, rf_26_0 hR, rf_26_1 hR, rf_26_2 hR, rf_26_3 hR, rf_26_4 hR, rf_26_5 hR, rf_26_6 hR, rf_26_7 hR, rf_27_0 hR, rf_27_1 hR, rf_30_0 hR, rf_30_1 hR, rf_33_0 hR, rf_33_1 hR, rf_36_0 hR, rf_36_1 hR, rf_39_0 hR, rf_39_1 hR, rf_42_0 hR, rf_42_1 hR, rf_45_0 hR, rf_45_1 hR, rf_48_0 hR, rf_48_1 hR, rf_51_0 hR, rf_51_1 hR, rf_51_6 hR, rf_51_7 hR, rf_h_3 hR, rf_d_3 hR, rf_h_4 hR, rf_d_4 hR, rf_h_5 hR, rf_d_5 hR, rf_h_6 hR, rf_d_6 hR, rf_h_7 hR, rf_d_7 hR, rf_h_8 hR, rf_d_8 hR, rf_h_9 hR, rf_d_9 hR, rf_12_0 hR, rf_3_1 hR, kn_0, kn_1, kn_2, kn_3, kn_4, kn_5, kn_6, kn_7, kn_8, kn_9, kn_10, kn_11, kn_12, kn_13, kn_14, kn_15, kn_16, kn_17, kn_18, kn_19, kn_20, kn_21, kn_22, kn_23, kn_24, kn_25, kn_26, kn_27, kn_28, kn_29, kn_30, kn_31, kn_32, kn_33, kn_34, kn_35, kn_36, kn_37, kn_38, kn_39, kn_40, kn_41, kn_42, kn_43, kn_44, kn_45, kn_46, kn_47, kn_48, kn_49, kn_50, kn_51, kn_52, kn_53, kn_54, kn_55, ln_2, ln_5, ln_6, ln_7, ln_8, ln_9, ln_10, ln_11, ln_14, ln_15, ln_16, ln_17, ln_18, ln_19, ln_20, ln_22, ln_23, ln_26, ln_28, ln_29, ln_31, ln_32, ln_34, ln_35, ln_37, ln_38, ln_40, ln_41, ln_43, ln_44, ln_46, ln_47, ln_49, ln_50, ln_52, kn_h hR, lt_h hR, kn_h1 hR, ln_h1 hR, lt_h1 hR, kn_h2 hR, ln_h2 hR, lt_h2 hR, kn_h3 hR, ln_h3 hR, lt_h3 hR, kn_h4 hR, ln_h4 hR, lt_h4 hR, kn_h5 hR, ln_h5 hR, lt_h5 hR, kn_h6 hR, ln_h6 hR, lt_h6 hR, kn_h7 hR, ln_h7 hR, lt_h7 hR, kn_d hR, lt_d hR, kn_d1 hR, ln_d1 hR, lt_d1 hR, kn_d2 hR, ln_d2 hR, lt_d2 hR, kn_d3 hR, ln_d3 hR, lt_d3 hR, kn_d4 hR, ln_d4 hR, lt_d4 hR, kn_d5 hR, ln_d5 hR, lt_d5 hR, kn_d6 hR, ln_d6 hR, lt_d6 hR, kn_d7 hR, ln_d7 hR, lt_d7 hR, va_rf_some, push_s, push_n, nb0, nb1, nbb, Nat.reduceLT, hn, if_true, h3, c_has (show i < 32 by omega), c1, b2i_0, Bool.true_eq_false, if_false, h1, h4]
        cases c2 : of2 a with
        | true =>
          have e := hs2 c2
          subst e
          have hpp := fun {Q} => c_partners_2 (E := E) (Q := Q) (J := J) hR hC hO (s := s1) ha hi c2
          have ec : cpt I pl nt a s1 i = so (fun k => bt s1 k && decide (mwhy I pl nt a i k = 0)) nt := by
            unfold cpt
            rw [if_pos c2]
            exact so_cong (fun k _ => by unfold gpar; rw [if_pos c2])
          rw [ec]
          simp only [hpp, e_119_48, va_rf_some, push_s, push_n, nb0, nb1, nbb, Nat.reduceLT]
        | false =>
          have e := hs1 c2
          subst e
          have hpp := fun {Q} => c_partners_1 (E := E) (Q := Q) (J := J) hR hC hO ha hi c2
          have ec : cpt I pl nt a f1 i = if mwhy I pl nt a i i = 0 then 1 else 0 := by
            unfold cpt
            rw [if_neg (by rw [c2]; decide)]
          rw [ec]
          simp only [hpp, e_119_48, va_rf_some, push_s, push_n, nb0, nb1, nbb, Nat.reduceLT]
theorem c_settle_pre (hR : tRef h d R) (hC : RR I h nr nt y pl) (hO : mO I nt) {a : Nat} {f0 f1 s1 : Int32} (ha : a < 12) (h1 : I 55 1 = nI a) (h3 : I 55 3 = f0) (h4 : I 55 4 = s1) (hf : ∀ t, nt ≤ t → t < 32 → bt f0 t = false) (hs2 : of2 a = true → s1 = f1) (hs1 : of2 a = false → s1 = 1) : ∃ p l4, (anyb (gC I pl nt a f0 f1) nt = false → p = 0) ∧ (ct (gC I pl nt a f0 f1) nt = 1 → p = cpt I pl nt a f1 (low (gC I pl nt a f0 f1) nt)) ∧ ∀ Q, tEv E 119 0 [.ref 0, tm_dum, tm_dum, tm_dum, tm_dum] [] (mS I J R) Q = tEv E 119 74 [.ref 0, .int (so (gC I pl nt a f0 f1) nt), .int p, .int (nI 16), l4] [] (mS I J R) Q := by
  have h16 := RR_16 hC
  obtain ⟨p, l4, g1, g2⟩ := c_settle_loop (E := E) (J := J) hR hC hO ha h1 h3 h4 hf hs2 hs1 16 0 0 0 tm_dum (by omega) rfl ⟨fun _ => rfl, fun x hx => by omega⟩
  refine ⟨p, l4, fun q => g1.1 ?_, fun q => ?_, fun Q => ?_⟩
  · cases q2 : anyb (fun t => decide (t < nt) && gC I pl nt a f0 f1 t) 16 with
    | false => rfl
    | true =>
      obtain ⟨x, hx, hg⟩ := anyb_iff.mp q2
      rw [Bool.and_eq_true, decide_eq_true_eq] at hg
      have : anyb (gC I pl nt a f0 f1) nt = true := anyb_iff.mpr ⟨x, hg.1, hg.2⟩
      rw [q] at this
      cases this
  · obtain ⟨u1, u2, u3⟩ := ct_uniq q
    refine g1.2 _ (by omega) (by show (decide _ && gC I pl nt a f0 f1 _) = true; rw [u2, decide_eq_true u1]; rfl) (fun x' hx' hg => ?_)
    rw [Bool.and_eq_true, decide_eq_true_eq] at hg
    exact u3 x' hg.1 hg.2
  · simp only [e_119_0, e_119_1, e_119_2, e_119_3, e_119_4, e_119_5]
    exact g2 Q
theorem sev_0 : (!decide ((0 : Int32) &&& (0 - 1) = 0)) = false := by decide
theorem sev_1 : (!decide ((1 : Int32) &&& (1 - 1) = 0)) = false := by decide
theorem sev_cpt {a x : Nat} {f1 : Int32} (h16 : nt ≤ 16) : (!decide (cpt I pl nt a f1 x &&& (cpt I pl nt a f1 x - 1) = 0)) = (of2 a && decide (1 < ct (gpar I pl nt a f1 x) nt)) := by
  unfold cpt
  cases c : of2 a with
  | true =>
    rw [if_pos rfl, sev_ct h16, Bool.true_and]
  | false =>
    rw [if_neg (by decide), Bool.false_and]
    split
    · exact sev_1
    · exact sev_0
/-- none: why -/
theorem c_settle_0 (hR : tRef h d R) (hW : RW I h nr nt y pl) {a : Nat} {f0 f1 s1 : Int32} (ha : a < 12) (h1 : I 55 1 = nI a) (h3 : I 55 3 = f0) (h4 : I 55 4 = s1) (hf : inN nt f0) (hf1 : of2 a = true → inN nt f1) (hs2 : of2 a = true → s1 = f1) (hs1 : of2 a = false → s1 = 1) (hc : anyb (gC I pl nt a f0 f1) nt = false) : tEv E 119 0 [.ref 0, tm_dum, tm_dum, tm_dum, tm_dum] [] (mS I J R) Q = Q (some (mwhy I pl nt a (low (bt f0) 16) (low (bt f1) 16))) (mS (va_up I 55 (upd (I 55) 0 0)) J R) := by
  have hC := hW.1
  have h16 := RR_16 hC
  obtain ⟨p, l4, g1, -, g2⟩ := c_settle_pre (E := E) (J := J) hR hC hW.2.1 ha h1 h3 h4 hf.1 hs2 hs1
  have e0 := g1 hc
  subst e0
  rw [g2 Q]
  have hs0 : so (gC I pl nt a f0 f1) nt = 0 := by rw [so_any (by omega)]; exact hc
  obtain ⟨fa, fl⟩ := inN_16 h16 hf
  have hh := hR.2.2.1
  have hag : ∀ F, agr I (va_up I 55 F) := fun F => ⟨⟨rfl, rfl⟩, fun k k1 k2 => by rw [vu, if_neg (by omega)], fun k k1 k2 => by rw [vu, if_neg (by omega)], fun _ _ => rfl, fun _ _ _ => rfl, fun _ _ => ⟨rfl, rfl⟩⟩
  have hW' : ∀ F, RW (va_up I 55 F) h nr nt y pl := fun F => RW_agr (by rcases hh with q | q <;> omega) (hag F) hW
  have em : ∀ F, mwhy (va_up I 55 F) pl nt = mwhy I pl nt := fun F => rfl
  rw [hs0]
  cases c2 : of2 a with
  | true =>
    have e := hs2 c2
    subst e
    obtain ⟨ga, gl⟩ := inN_16 h16 (hf1 c2)
    have hr := fun {Q} F => c_reason_1 (E := E) (Q := Q) (J := J) (zv := nI (low (bt s1) 16)) hR (hW' F).1 (hW' F).2.1 ha fl (z := low (bt s1) 16) (fun _ => ⟨rfl, gl⟩)
    simp only [em] at hr
    simp only [e_119_74, e_119_75, e_119_78, e_119_81, e_119_82, e_119_85, e_119_86, e_119_89, e_119_90, e_119_93, e_119_94, e_119_97, e_119_98, e_119_99, e_119_100, e_119_103, e_119_106, e_119_107, e_119_110, e_119_111, e_119_114, e_119_115, e_119_118, e_119_119, e_119_122, e_119_123, e_119_124, e_119_125, e_119_128, e_119_131, e_119_132, e_119_135, e_119_136, e_119_139, e_119_140, e_119_143, e_119_146, e_119_147, e_119_150, e_119_153, e_119_156, e_119_157, e_119_160, e_119_163, e_119_166, e_119_169, e_119_170, rf_0_0 hR, rf_0_1 hR, rf_0_2 hR, rf_0_3 hR, rf_0_4 hR, rf_0_5 hR, rf_0_6 hR, rf_1_0 hR, rf_3_0 hR, rf_3_2 hR, rf_4_3 hR, rf_4_4 hR, rf_4_5 hR, rf_4_6 hR, rf_4_7 hR, rf_4_8 hR, rf_4_9 hR, rf_12_1 hR, rf_13_3 hR, rf_13_4 hR, rf_13_5 hR, rf_13_6 hR, rf_13_7 hR, rf_13_8 hR, rf_13_9 hR, rf_21_0 hR, rf_21_1 hR, rf_24_0 hR, rf_25_0 hR, rf_26_0 hR, rf_26_1 hR, rf_26_2 hR, rf_26_3 hR, rf_26_4 hR, rf_26_5 hR, rf_26_6 hR, rf_26_7 hR, rf_27_0 hR, rf_27_1 hR, rf_30_0 hR, rf_30_1 hR, rf_33_0 hR, rf_33_1 hR, rf_36_0 hR, rf_36_1 hR, rf_39_0 hR, rf_39_1 hR, rf_42_0 hR, rf_42_1 hR, rf_45_0 hR, rf_45_1 hR, rf_48_0 hR, rf_48_1 hR, rf_51_0 hR, rf_51_1 hR, rf_51_6 hR, rf_51_7 hR, rf_h_3 hR, rf_d_3 hR, rf_h_4 hR, rf_d_4 hR, rf_h_5 hR, rf_d_5 hR, rf_h_6 hR, rf_d_6 hR, rf_h_7 hR, rf_d_7 hR, rf_h_8 hR, rf_d_8 hR, rf_h_9 hR, rf_d_9 hR, rf_12_0 hR, rf_3_1 hR, kn_0, kn_1, kn_2, kn_3, kn_4, kn_5, kn_6, kn_7, kn_8, kn_9, kn_10, kn_11, kn_12, kn_13, kn_14, kn_15, kn_16, kn_17, kn_18, kn_19, kn_20, kn_21, kn_22, kn_23, kn_24, kn_25, kn_26, kn_27, kn_28, kn_29, kn_30, kn_31, kn_32, kn_33, kn_34, kn_35, kn_36, kn_37, kn_38, kn_39, kn_40, kn_41, kn_42, kn_43, kn_44, kn_45, kn_46, kn_47, kn_48, kn_49, kn_50, kn_51, kn_52, kn_53, kn_54, kn_55, ln_2, ln_5, ln_6, ln_7, ln_8, ln_9, ln_10, ln_11, ln_14, ln_15, ln_16, ln_17, ln_18, ln_19, ln_20, ln_22, ln_23, ln_26, ln_28, ln_29, ln_31, ln_32, ln_34, ln_35, ln_37, ln_38, ln_40, ln_41, ln_43, ln_44, ln_46, ln_47, ln_49, ln_50, ln_52, kn_h hR, lt_h hR, kn_h1 hR, ln_h1 hR, lt_h1 hR, kn_h2 hR, ln_h2 hR, lt_h2 hR, kn_h3 hR, ln_h3 hR, lt_h3 hR, kn_h4 hR, ln_h4 hR, lt_h4 hR, kn_h5 hR, ln_h5 hR, lt_h5 hR, kn_h6 hR, ln_h6 hR, lt_h6 hR, kn_h7 hR, ln_h7 hR, lt_h7 hR, kn_d hR, lt_d hR, kn_d1 hR, ln_d1 hR, lt_d1 hR, kn_d2 hR, ln_d2 hR, lt_d2 hR, kn_d3 hR, ln_d3 hR, lt_d3 hR, kn_d4 hR, ln_d4 hR, lt_d4 hR, kn_d5 hR, ln_d5 hR, lt_d5 hR, kn_d6 hR, ln_d6 hR, lt_d6 hR, kn_d7 hR, ln_d7 hR, lt_d7 hR, va_rf_some, push_s, push_n, nb0, nb1, nbb, Nat.reduceLT, c_isSeveral, sev_0, b2i_0, if_true, c_dend hR, vu, ud, Nat.reduceEqDiff, if_false, h1, h3, h4, c_lowest fa, c_lowest ga, hr]
  | false =>
    have e := hs1 c2
    subst e
    have hl1 : low (bt 1) 16 = 0 := by decide
    have ha1 : anyb (bt 1) 16 = true := by decide
    have hr := fun {Q} F => c_reason_1 (E := E) (Q := Q) (J := J) (zv := nI (low (bt 1) 16)) hR (hW' F).1 (hW' F).2.1 ha fl (z := low (bt f1) 16) (fun e => by rw [c2] at e; cases e)
    simp only [em] at hr
    simp only [e_119_74, e_119_75, e_119_78, e_119_81, e_119_82, e_119_85, e_119_86, e_119_89, e_119_90, e_119_93, e_119_94, e_119_97, e_119_98, e_119_99, e_119_100, e_119_103, e_119_106, e_119_107, e_119_110, e_119_111, e_119_114, e_119_115, e_119_118, e_119_119, e_119_122, e_119_123, e_119_124, e_119_125, e_119_128, e_119_131, e_119_132, e_119_135, e_119_136, e_119_139, e_119_140, e_119_143, e_119_146, e_119_147, e_119_150, e_119_153, e_119_156, e_119_157, e_119_160, e_119_163, e_119_166, e_119_169, e_119_170, rf_0_0 hR, rf_0_1 hR, rf_0_2 hR, rf_0_3 hR, rf_0_4 hR, rf_0_5 hR, rf_0_6 hR, rf_1_0 hR, rf_3_0 hR, rf_3_2 hR, rf_4_3 hR, rf_4_4 hR, rf_4_5 hR, rf_4_6 hR, rf_4_7 hR, rf_4_8 hR, rf_4_9 hR, rf_12_1 hR, rf_13_3 hR, rf_13_4 hR, rf_13_5 hR, rf_13_6 hR, rf_13_7 hR, rf_13_8 hR, rf_13_9 hR, rf_21_0 hR, rf_21_1 hR, rf_24_0 hR, rf_25_0 hR, rf_26_0 hR, rf_26_1 hR, rf_26_2 hR, rf_26_3 hR, rf_26_4 hR, rf_26_5 hR, rf_26_6 hR, rf_26_7 hR, rf_27_0 hR, rf_27_1 hR, rf_30_0 hR, rf_30_1 hR, rf_33_0 hR, rf_33_1 hR, rf_36_0 hR, rf_36_1 hR, rf_39_0 hR, rf_39_1 hR, rf_42_0 hR, rf_42_1 hR, rf_45_0 hR, rf_45_1 hR, rf_48_0 hR, rf_48_1 hR, rf_51_0 hR, rf_51_1 hR, rf_51_6 hR, rf_51_7 hR, rf_h_3 hR, rf_d_3 hR, rf_h_4 hR, rf_d_4 hR, rf_h_5 hR, rf_d_5 hR, rf_h_6 hR, rf_d_6 hR, rf_h_7 hR, rf_d_7 hR, rf_h_8 hR, rf_d_8 hR, rf_h_9 hR, rf_d_9 hR, rf_12_0 hR, rf_3_1 hR, kn_0, kn_1, kn_2, kn_3, kn_4, kn_5, kn_6, kn_7, kn_8, kn_9, kn_10, kn_11, kn_12, kn_13, kn_14, kn_15, kn_16, kn_17, kn_18, kn_19, kn_20, kn_21, kn_22, kn_23, kn_24, kn_25, kn_26, kn_27, kn_28, kn_29, kn_30, kn_31, kn_32, kn_33, kn_34, kn_35, kn_36, kn_37, kn_38, kn_39, kn_40, kn_41, kn_42, kn_43, kn_44, kn_45, kn_46, kn_47, kn_48, kn_49, kn_50, kn_51, kn_52, kn_53, kn_54, kn_55, ln_2, ln_5, ln_6, ln_7, ln_8, ln_9, ln_10, ln_11, ln_14, ln_15, ln_16, ln_17, ln_18, ln_19, ln_20, ln_22, ln_23, ln_26, ln_28, ln_29, ln_31, ln_32, ln_34, ln_35, ln_37, ln_38, ln_40, ln_41, ln_43, ln_44, ln_46, ln_47, ln_49, ln_50, ln_52, kn_h hR, lt_h hR, kn_h1 hR, ln_h1 hR, lt_h1 hR, kn_h2 hR, ln_h2 hR, lt_h2 hR, kn_h3 hR, ln_h3 hR, lt_h3 hR, kn_h4 hR, ln_h4 hR, lt_h4 hR, kn_h5 hR, ln_h5 hR, lt_h5 hR, kn_h6 hR, ln_h6 hR, lt_h6 hR, kn_h7 hR, ln_h7 hR, lt_h7 hR, kn_d hR, lt_d hR, kn_d1 hR, ln_d1 hR, lt_d1 hR, kn_d2 hR, ln_d2 hR, lt_d2 hR, kn_d3 hR, ln_d3 hR, lt_d3 hR, kn_d4 hR, ln_d4 hR, lt_d4 hR, kn_d5 hR, ln_d5 hR, lt_d5 hR, kn_d6 hR, ln_d6 hR, lt_d6 hR, kn_d7 hR, ln_d7 hR, lt_d7 hR, va_rf_some, push_s, push_n, nb0, nb1, nbb, Nat.reduceLT, c_isSeveral, sev_0, b2i_0, if_true, c_dend hR, vu, ud, Nat.reduceEqDiff, if_false, h1, h3, h4, c_lowest fa, c_lowest ha1, hr]
/-- several for the first phrase -/
theorem c_settle_1 (hR : tRef h d R) (hW : RW I h nr nt y pl) {a : Nat} {f0 f1 s1 : Int32} (ha : a < 12) (h1 : I 55 1 = nI a) (h3 : I 55 3 = f0) (h4 : I 55 4 = s1) (hf : inN nt f0) (hs2 : of2 a = true → s1 = f1) (hs1 : of2 a = false → s1 = 1) (hc : 1 < ct (gC I pl nt a f0 f1) nt) : tEv E 119 0 [.ref 0, tm_dum, tm_dum, tm_dum, tm_dum] [] (mS I J R) Q = Q (some 4) (mS (va_up I 55 (upd (upd (I 55) 3 (so (gC I pl nt a f0 f1) nt)) 0 1)) J R) := by
  have hC := hW.1
  have h16 := RR_16 hC
  obtain ⟨p, l4, -, -, g2⟩ := c_settle_pre (E := E) (J := J) hR hC hW.2.1 ha h1 h3 h4 hf.1 hs2 hs1
  rw [g2 Q]
  simp only [e_119_74, e_119_75, e_119_78, e_119_81, e_119_82, e_119_85, e_119_86, e_119_89, e_119_90, e_119_93, e_119_94, e_119_97, e_119_98, rf_0_0 hR, rf_0_1 hR, rf_0_2 hR, rf_0_3 hR, rf_0_4 hR, rf_0_5 hR, rf_0_6 hR, rf_1_0 hR, rf_3_0 hR, rf_3_2 hR, rf_4_3 hR, rf_4_4 hR, rf_4_5 hR, rf_4_6 hR, rf_4_7 hR, rf_4_8 hR, rf_4_9 hR, rf_12_1 hR, rf_13_3 hR, rf_13_4 hR, rf_13_5 hR, rf_13_6 hR, rf_13_7 hR, rf_13_8 hR, rf_13_9 hR, rf_21_0 hR, rf_21_1 hR, rf_24_0 hR, rf_25_0 hR, rf_26_0 hR, rf_26_1 hR, rf_26_2 hR, rf_26_3 hR, rf_26_4 hR, rf_26_5 hR, rf_26_6 hR, rf_26_7 hR, rf_27_0 hR, rf_27_1 hR, rf_30_0 hR, rf_30_1 hR, rf_33_0 hR, rf_33_1 hR, rf_36_0 hR, rf_36_1 hR, rf_39_0 hR, rf_39_1 hR, rf_42_0 hR, rf_42_1 hR, rf_45_0 hR, rf_45_1 hR, rf_48_0 hR, rf_48_1 hR, rf_51_0 hR, rf_51_1 hR, rf_51_6 hR, rf_51_7 hR, rf_h_3 hR, rf_d_3 hR, rf_h_4 hR, rf_d_4 hR, rf_h_5 hR, rf_d_5 hR, rf_h_6 hR, rf_d_6 hR, rf_h_7 hR, rf_d_7 hR, rf_h_8 hR, rf_d_8 hR, rf_h_9 hR, rf_d_9 hR, rf_12_0 hR, rf_3_1 hR, kn_0, kn_1, kn_2, kn_3, kn_4, kn_5, kn_6, kn_7, kn_8, kn_9, kn_10, kn_11, kn_12, kn_13, kn_14, kn_15, kn_16, kn_17, kn_18, kn_19, kn_20, kn_21, kn_22, kn_23, kn_24, kn_25, kn_26, kn_27, kn_28, kn_29, kn_30, kn_31, kn_32, kn_33, kn_34, kn_35, kn_36, kn_37, kn_38, kn_39, kn_40, kn_41, kn_42, kn_43, kn_44, kn_45, kn_46, kn_47, kn_48, kn_49, kn_50, kn_51, kn_52, kn_53, kn_54, kn_55, ln_2, ln_5, ln_6, ln_7, ln_8, ln_9, ln_10, ln_11, ln_14, ln_15, ln_16, ln_17, ln_18, ln_19, ln_20, ln_22, ln_23, ln_26, ln_28, ln_29, ln_31, ln_32, ln_34, ln_35, ln_37, ln_38, ln_40, ln_41, ln_43, ln_44, ln_46, ln_47, ln_49, ln_50, ln_52, kn_h hR, lt_h hR, kn_h1 hR, ln_h1 hR, lt_h1 hR, kn_h2 hR, ln_h2 hR, lt_h2 hR, kn_h3 hR, ln_h3 hR, lt_h3 hR, kn_h4 hR, ln_h4 hR, lt_h4 hR, kn_h5 hR, ln_h5 hR, lt_h5 hR, kn_h6 hR, ln_h6 hR, lt_h6 hR, kn_h7 hR, ln_h7 hR, lt_h7 hR, kn_d hR, lt_d hR, kn_d1 hR, ln_d1 hR, lt_d1 hR, kn_d2 hR, ln_d2 hR, lt_d2 hR, kn_d3 hR, ln_d3 hR, lt_d3 hR, kn_d4 hR, ln_d4 hR, lt_d4 hR, kn_d5 hR, ln_d5 hR, lt_d5 hR, kn_d6 hR, ln_d6 hR, lt_d6 hR, kn_d7 hR, ln_d7 hR, lt_d7 hR, va_rf_some, push_s, push_n, nb0, nb1, nbb, Nat.reduceLT, c_isSeveral, sev_ct h16, decide_eq_true hc, b2i_0, Bool.true_eq_false, if_false, vu, ud, vu_vu, Nat.reduceEqDiff, if_true]
/-- just one, and several for the second -/
theorem c_settle_2 (hR : tRef h d R) (hW : RW I h nr nt y pl) {a : Nat} {f0 f1 s1 : Int32} (ha : a < 12) (h1 : I 55 1 = nI a) (h3 : I 55 3 = f0) (h4 : I 55 4 = s1) (hf : inN nt f0) (h2 : of2 a = true) (hs2 : s1 = f1) (hc : ct (gC I pl nt a f0 f1) nt = 1) (hp : 1 < ct (gpar I pl nt a f1 (low (gC I pl nt a f0 f1) nt)) nt) : tEv E 119 0 [.ref 0, tm_dum, tm_dum, tm_dum, tm_dum] [] (mS I J R) Q = Q (some 4) (mS (va_up I 55 (upd (upd (I 55) 4 (so (gpar I pl nt a f1 (low (gC I pl nt a f0 f1) nt)) nt)) 0 2)) J R) := by
  have hC := hW.1
  have h16 := RR_16 hC
  obtain ⟨p, l4, -, g1, g2⟩ := c_settle_pre (E := E) (J := J) (f1 := f1) hR hC hW.2.1 ha h1 h3 h4 hf.1 (fun _ => hs2) (fun e => by rw [h2] at e; cases e)
  have e0 := g1 hc
  subst e0
  have ec : cpt I pl nt a f1 (low (gC I pl nt a f0 f1) nt) = so (gpar I pl nt a f1 (low (gC I pl nt a f0 f1) nt)) nt := if_pos h2
  rw [g2 Q]
  simp only [e_119_74, e_119_75, e_119_78, e_119_81, e_119_82, e_119_85, e_119_86, e_119_89, e_119_90, e_119_93, e_119_94, e_119_97, e_119_98, e_119_99, e_119_100, e_119_103, e_119_106, e_119_107, e_119_110, e_119_111, e_119_114, e_119_115, e_119_118, e_119_119, e_119_122, e_119_123, rf_0_0 hR, rf_0_1 hR, rf_0_2 hR, rf_0_3 hR, rf_0_4 hR, rf_0_5 hR, rf_0_6 hR, rf_1_0 hR, rf_3_0 hR, rf_3_2 hR, rf_4_3 hR, rf_4_4 hR, rf_4_5 hR, rf_4_6 hR, rf_4_7 hR, rf_4_8 hR, rf_4_9 hR, rf_12_1 hR, rf_13_3 hR, rf_13_4 hR, rf_13_5 hR, rf_13_6 hR, rf_13_7 hR, rf_13_8 hR, rf_13_9 hR, rf_21_0 hR, rf_21_1 hR, rf_24_0 hR, rf_25_0 hR, rf_26_0 hR, rf_26_1 hR, rf_26_2 hR, rf_26_3 hR, rf_26_4 hR, rf_26_5 hR, rf_26_6 hR, rf_26_7 hR, rf_27_0 hR, rf_27_1 hR, rf_30_0 hR, rf_30_1 hR, rf_33_0 hR, rf_33_1 hR, rf_36_0 hR, rf_36_1 hR, rf_39_0 hR, rf_39_1 hR, rf_42_0 hR, rf_42_1 hR, rf_45_0 hR, rf_45_1 hR, rf_48_0 hR, rf_48_1 hR, rf_51_0 hR, rf_51_1 hR, rf_51_6 hR, rf_51_7 hR, rf_h_3 hR, rf_d_3 hR, rf_h_4 hR, rf_d_4 hR, rf_h_5 hR, rf_d_5 hR, rf_h_6 hR, rf_d_6 hR, rf_h_7 hR, rf_d_7 hR, rf_h_8 hR, rf_d_8 hR, rf_h_9 hR, rf_d_9 hR, rf_12_0 hR, rf_3_1 hR, kn_0, kn_1, kn_2, kn_3, kn_4, kn_5, kn_6, kn_7, kn_8, kn_9, kn_10, kn_11, kn_12, kn_13, kn_14, kn_15, kn_16, kn_17, kn_18, kn_19, kn_20, kn_21, kn_22, kn_23, kn_24, kn_25, kn_26, kn_27, kn_28, kn_29, kn_30, kn_31, kn_32, kn_33, kn_34, kn_35, kn_36, kn_37, kn_38, kn_39, kn_40, kn_41, kn_42, kn_43, kn_44, kn_45, kn_46, kn_47, kn_48, kn_49, kn_50, kn_51, kn_52, kn_53, kn_54, kn_55, ln_2, ln_5, ln_6, ln_7, ln_8, ln_9, ln_10, ln_11, ln_14, ln_15, ln_16, ln_17, ln_18, ln_19, ln_20, ln_22, ln_23, ln_26, ln_28, ln_29, ln_31, ln_32, ln_34, ln_35, ln_37, ln_38, ln_40, ln_41, ln_43, ln_44, ln_46, ln_47, ln_49, ln_50, ln_52, kn_h hR, lt_h hR, kn_h1 hR, ln_h1 hR, lt_h1 hR, kn_h2 hR, ln_h2 hR, lt_h2 hR, kn_h3 hR, ln_h3 hR, lt_h3 hR, kn_h4 hR, ln_h4 hR, lt_h4 hR, kn_h5 hR, ln_h5 hR, lt_h5 hR, kn_h6 hR, ln_h6 hR, lt_h6 hR, kn_h7 hR, ln_h7 hR, lt_h7 hR, kn_d hR, lt_d hR, kn_d1 hR, ln_d1 hR, lt_d1 hR, kn_d2 hR, ln_d2 hR, lt_d2 hR, kn_d3 hR, ln_d3 hR, lt_d3 hR, kn_d4 hR, ln_d4 hR, lt_d4 hR, kn_d5 hR, ln_d5 hR, lt_d5 hR, kn_d6 hR, ln_d6 hR, lt_d6 hR, kn_d7 hR, ln_d7 hR, lt_d7 hR, va_rf_some, push_s, push_n, nb0, nb1, nbb, Nat.reduceLT, c_isSeveral, sev_ct h16, sev_cpt h16, h2, Bool.true_and, decide_eq_false (show ¬ 1 < ct (gC I pl nt a f0 f1) nt by omega), decide_eq_true hp, b2i_0, Bool.true_eq_false, if_false, vu, ud, vu_vu, Nat.reduceEqDiff, if_true, ec]
/-- just one, just one: done -/
theorem c_settle_3 (hR : tRef h d R) (hW : RW I h nr nt y pl) {a u nx : Nat} (hx : nx < 8) (hu : u ≤ 8) (n1 : I 25 1 = nI nx) (n2 : I 25 2 = nI u) {f0 f1 s1 : Int32} (ha : a < 12) (h1 : I 55 1 = nI a) (h3 : I 55 3 = f0) (h4 : I 55 4 = s1) (hf : inN nt f0) (hs2 : of2 a = true → s1 = f1) (hs1 : of2 a = false → s1 = 1) (hc : ct (gC I pl nt a f0 f1) nt = 1) (hp : ct (gpar I pl nt a f1 (low (gC I pl nt a f0 f1) nt)) nt = 1) : ∃ I1 I3, kpd (va_up I 55 (upd (I 55) 0 0)) I1 nx u ∧ etd (pfd I1 a (low (gC I pl nt a f0 f1) nt) (low (gpar I pl nt a f1 (low (gC I pl nt a f0 f1) nt)) nt) (nI (ct (fun t => pl t == 10 + low (gC I pl nt a f0 f1) nt) nt))) I3 ∧ ∀ Q, tEv E 119 0 [.ref 0, tm_dum, tm_dum, tm_dum, tm_dum] [] (mS I J R) Q = Q (some 0) (mS I3 J R) := by
  have hC := hW.1
  have h16 := RR_16 hC
  have hh := hR.2.2.1
  obtain ⟨p, l4, -, g1, g2⟩ := c_settle_pre (E := E) (J := J) hR hC hW.2.1 ha h1 h3 h4 hf.1 hs2 hs1
  have e0 := g1 hc
  subst e0
  obtain ⟨u1, u2, -⟩ := ct_uniq hc
  obtain ⟨v1, v2, -⟩ := ct_uniq hp
  obtain ⟨I1, k1, k2⟩ := c_keep (E := E) (I := va_up I 55 (upd (I 55) 0 0)) (J := J) hR hx hu n1 n2
  have hag : agr I I1 := ⟨⟨by rw [k1.1 56 (by decide) (by omega) (by omega) (by omega)]; rfl, by rw [k1.1 56 (by decide) (by omega) (by omega) (by omega)]; rfl⟩, fun k q1 q2 => by rw [k1.1 k (by omega) (by omega) (by omega) (by omega), vu, if_neg (by omega)], fun k q1 q2 => by rw [k1.1 k (by omega) (by omega) (by omega) (by omega), vu, if_neg (by omega)], fun q _ => by rw [k1.1 57 (by decide) (by omega) (by omega) (by omega)]; rfl, fun k _ _ => by rw [k1.1 21 (by decide) (by omega) (by omega) (by omega)]; rfl, fun t _ => by rw [k1.1 22 (by decide) (by omega) (by omega) (by omega), k1.1 23 (by decide) (by omega) (by omega) (by omega)]; exact ⟨rfl, rfl⟩⟩
  have hW1 : RW I1 h nr nt y pl := RW_agr (by rcases hh with q | q <;> omega) hag hW
  have e55 : I1 55 = upd (I 55) 0 0 := k1.1 55 (by decide) (by omega) (by omega) (by omega)
  have hsv : (of2 a && decide (1 < ct (gpar I pl nt a f1 (low (gC I pl nt a f0 f1) nt)) nt)) = false := by rw [hp]; cases of2 a <;> rfl
  have nz : ¬ so (gC I pl nt a f0 f1) nt = 0 := so_nz (by omega) (anyb_iff.mpr ⟨_, u1, u2⟩)
  have la : anyb (bt (so (gC I pl nt a f0 f1) nt)) 16 = true := by rw [anyb_so h16]; exact anyb_iff.mpr ⟨_, u1, u2⟩
  have ll : low (bt (so (gC I pl nt a f0 f1) nt)) 16 = low (gC I pl nt a f0 f1) nt := low_so h16 (anyb_iff.mpr ⟨_, u1, u2⟩)
  have pa : anyb (bt (cpt I pl nt a f1 (low (gC I pl nt a f0 f1) nt))) 16 = true := by
    unfold cpt
    cases c2 : of2 a with
    | true =>
      rw [if_pos rfl, anyb_so h16]
      exact anyb_iff.mpr ⟨_, v1, v2⟩
    | false =>
      rw [if_neg (by decide), if_pos]
      · decide
      · unfold gpar at v2
        rw [c2, if_neg (by decide), Bool.and_eq_true, beq_iff_eq, decide_eq_true_eq] at v2
        rw [v2.1] at v2
        exact v2.2
  have pz : of2 a = true → nI (low (bt (cpt I pl nt a f1 (low (gC I pl nt a f0 f1) nt))) 16) = nI (low (gpar I pl nt a f1 (low (gC I pl nt a f0 f1) nt)) nt) := fun c2 => by
    have ec : cpt I pl nt a f1 (low (gC I pl nt a f0 f1) nt) = so (gpar I pl nt a f1 (low (gC I pl nt a f0 f1) nt)) nt := if_pos c2
    rw [ec, low_so h16 (anyb_iff.mpr ⟨_, v1, v2⟩)]
  obtain ⟨I3, t1, t2⟩ := c_finish (E := E) (I := pfd I1 a (low (gC I pl nt a f0 f1) nt) (low (gpar I pl nt a f1 (low (gC I pl nt a f0 f1) nt)) nt) (nI (ct (fun t => pl t == 10 + low (gC I pl nt a f0 f1) nt) nt))) (J := J) hR
  have pf := fun {Q} => c_perform (E := E) (Q := Q) (J := J) hR hW1.1 ha u1 pz
  refine ⟨I1, I3, k1, t1, fun Q => ?_⟩
  rw [g2 Q]
  simp only [e_119_74, e_119_75, e_119_78, e_119_81, e_119_82, e_119_85, e_119_86, e_119_89, e_119_90, e_119_93, e_119_94, e_119_97, e_119_98, e_119_99, e_119_100, e_119_103, e_119_106, e_119_107, e_119_110, e_119_111, e_119_114, e_119_115, e_119_118, e_119_119, e_119_122, e_119_123, e_119_124, e_119_125, e_119_128, e_119_131, e_119_132, e_119_135, e_119_136, e_119_139, e_119_140, e_119_143, e_119_146, e_119_147, e_119_150, e_119_153, e_119_156, e_119_157, e_119_160, e_119_163, e_119_166, e_119_169, e_119_170, e_119_171, e_119_174, e_119_175, e_119_178, e_119_181, e_119_184, e_119_185, e_119_188, e_119_189, e_119_192, e_119_195, e_119_196, e_119_199, e_119_200, e_119_203, e_119_206, e_119_207, e_119_210, rf_0_0 hR, rf_0_1 hR, rf_0_2 hR, rf_0_3 hR, rf_0_4 hR, rf_0_5 hR, rf_0_6 hR, rf_1_0 hR, rf_3_0 hR, rf_3_2 hR, rf_4_3 hR, rf_4_4 hR, rf_4_5 hR, rf_4_6 hR, rf_4_7 hR, rf_4_8 hR, rf_4_9 hR, rf_12_1 hR, rf_13_3 hR, rf_13_4 hR, rf_13_5 hR, rf_13_6 hR, rf_13_7 hR, rf_13_8 hR, rf_13_9 hR, rf_21_0 hR, rf_21_1 hR, rf_24_0 hR, rf_25_0 hR, rf_26_0 hR, rf_26_1 hR, rf_26_2 hR, rf_26_3 hR, rf_26_4 hR, rf_26_5 hR, rf_26_6 hR, rf_26_7 hR, rf_27_0 hR, rf_27_1 hR, rf_30_0 hR, rf_30_1 hR, rf_33_0 hR, rf_33_1 hR, rf_36_0 hR, rf_36_1 hR, rf_39_0 hR, rf_39_1 hR, rf_42_0 hR, rf_42_1 hR, rf_45_0 hR, rf_45_1 hR, rf_48_0 hR, rf_48_1 hR, rf_51_0 hR, rf_51_1 hR, rf_51_6 hR, rf_51_7 hR, rf_h_3 hR, rf_d_3 hR, rf_h_4 hR, rf_d_4 hR, rf_h_5 hR, rf_d_5 hR, rf_h_6 hR, rf_d_6 hR, rf_h_7 hR, rf_d_7 hR, rf_h_8 hR, rf_d_8 hR, rf_h_9 hR, rf_d_9 hR, rf_12_0 hR, rf_3_1 hR, kn_0, kn_1, kn_2, kn_3, kn_4, kn_5, kn_6, kn_7, kn_8, kn_9, kn_10, kn_11, kn_12, kn_13, kn_14, kn_15, kn_16, kn_17, kn_18, kn_19, kn_20, kn_21, kn_22, kn_23, kn_24, kn_25, kn_26, kn_27, kn_28, kn_29, kn_30, kn_31, kn_32, kn_33, kn_34, kn_35, kn_36, kn_37, kn_38, kn_39, kn_40, kn_41, kn_42, kn_43, kn_44, kn_45, kn_46, kn_47, kn_48, kn_49, kn_50, kn_51, kn_52, kn_53, kn_54, kn_55, ln_2, ln_5, ln_6, ln_7, ln_8, ln_9, ln_10, ln_11, ln_14, ln_15, ln_16, ln_17, ln_18, ln_19, ln_20, ln_22, ln_23, ln_26, ln_28, ln_29, ln_31, ln_32, ln_34, ln_35, ln_37, ln_38, ln_40, ln_41, ln_43, ln_44, ln_46, ln_47, ln_49, ln_50, ln_52, kn_h hR, lt_h hR, kn_h1 hR, ln_h1 hR, lt_h1 hR, kn_h2 hR, ln_h2 hR, lt_h2 hR, kn_h3 hR, ln_h3 hR, lt_h3 hR, kn_h4 hR, ln_h4 hR, lt_h4 hR, kn_h5 hR, ln_h5 hR, lt_h5 hR, kn_h6 hR, ln_h6 hR, lt_h6 hR, kn_h7 hR, ln_h7 hR, lt_h7 hR, kn_d hR, lt_d hR, kn_d1 hR, ln_d1 hR, lt_d1 hR, kn_d2 hR, ln_d2 hR, lt_d2 hR, kn_d3 hR, ln_d3 hR, lt_d3 hR, kn_d4 hR, ln_d4 hR, lt_d4 hR, kn_d5 hR, ln_d5 hR, lt_d5 hR, kn_d6 hR, ln_d6 hR, lt_d6 hR, kn_d7 hR, ln_d7 hR, lt_d7 hR, va_rf_some, push_s, push_n, nb0, nb1, nbb, Nat.reduceLT, c_isSeveral, sev_ct h16, sev_cpt h16, hsv, decide_eq_false (show ¬ 1 < ct (gC I pl nt a f0 f1) nt by omega), b2i_0, if_true, c_dend hR, nz, if_false, k2, e55, ud, Nat.reduceEqDiff, h1, c_lowest la, c_lowest pa, ll, pf, t2]
end F2
