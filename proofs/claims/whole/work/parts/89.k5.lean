/-! ===== the draft may change ===== -/
/-- alike in all that the relation looks at -/
def agx (h : Nat) (I I' : Nat → Nat → Int32) : Prop := (I' 56 2 = I 56 2 ∧ I' 56 3 = I 56 3) ∧ (∀ c, h ≤ c → c ≤ h + 7 → I' c = I c) ∧ (∀ c, 58 ≤ c → c ≤ 65 → I' c = I c) ∧ (∀ q, q < 52 → I' 57 q = I 57 q) ∧ (∀ k, 2 ≤ k → k < 9 → I' 21 k = I 21 k) ∧ ∀ t, t < 16 → I' 22 t = I 22 t ∧ I' 23 t = I 23 t
theorem RW_agx {I I' : Nat → Nat → Int32} {h nr nt y : Nat} {pl : Nat → Nat} (hh : h = 4 ∨ h = 13) (a : agx h I I') (hC : RW I h nr nt y pl) : RW I' h nr nt y pl := by
  obtain ⟨⟨a1, a2⟩, a3, a4, a5, a6, a7⟩ := a
  obtain ⟨⟨hW, hY, hH, hS, hD⟩, hO, hL, hLa⟩ := hC
  have h16 := hW.2.2.2.1
  have e58 := a4 58 (by decide) (by decide)
  have e59 := a4 59 (by decide) (by decide)
  have e60 := a4 60 (by decide) (by decide)
  have e61 := a4 61 (by decide) (by decide)
  have e62 := a4 62 (by decide) (by decide)
  have e63 := a4 63 (by decide) (by decide)
  have e64 := a4 64 (by decide) (by decide)
  have e65 := a4 65 (by decide) (by decide)
  have q0 := a3 h (by omega) (by omega)
  have q1 := a3 (h + 1) (by omega) (by omega)
  have q2 := a3 (h + 2) (by omega) (by omega)
  have q3 := a3 (h + 3) (by omega) (by omega)
  have q4 := a3 (h + 4) (by omega) (by omega)
  have q6 := a3 (h + 6) (by omega) (by omega)
  have q7 := a3 (h + 7) (by omega) (by omega)
  have hm : mtr I' = mtr I := by
    funext t x
    unfold mtr
    rw [e62]
  have hs : ∀ t x, t < nt → mst I' t x = mst I t x := fun t x ht => by
    unfold mst
    rw [a5 (16 + t) (by omega)]
  have hb : ∀ c f q q', I' c f = I c f → (∀ t, t < nt → q' t = q t) → cB I c f nt q → cB I' c f nt q' := fun c f q q' e e2 g t ht => by
    rw [e, g t ht]
    by_cases c : t < nt
    · rw [e2 t c]
    · rw [decide_eq_false c, Bool.false_and, Bool.false_and]
  refine ⟨⟨mW_cong hW a1 a2 (fun t ht => a5 t (by omega)), ?_, ?_, ?_, ?_⟩, ?_, ?_, ?_⟩
  · refine ⟨by rw [a5 48 (by decide)]; exact hY.1, hY.2.1, ?_, ?_⟩
    · rw [e64]; exact hY.2.2.1
    · rw [e65]; exact hY.2.2.2
  · obtain ⟨⟨b1, b2, b3⟩, ⟨b4, b5, b6, b7, b8, b9⟩, b10, b11, b12, b13, b14, b15⟩ := hH
    refine ⟨⟨by rw [q0]; exact b1, by rw [q0]; exact b2, by rw [q0, e58]; exact b3⟩, ⟨by rw [q1, e64]; exact b4, by rw [q2, e65]; exact b5, by rw [q3, e59]; exact b6, by rw [q4, e60]; exact b7, ?_, by rw [q7, e63]; exact b9⟩, ?_⟩
    · unfold cWt at b8 ⊢
      rw [q6, e61]
      exact b8
    · rw [hm]
      exact ⟨hb _ _ _ _ (by rw [q0]) (fun _ _ => rfl) b10, hb _ _ _ _ (by rw [q0]) (fun _ _ => rfl) b11, hb _ _ _ _ (by rw [q0]) (fun _ _ => rfl) b12, hb _ _ _ _ (by rw [q0]) (fun _ _ => rfl) b13, hb _ _ _ _ (by rw [q0]) (fun _ _ => rfl) b14, hb _ _ _ _ (by rw [q0]) (fun _ _ => rfl) b15⟩
  · obtain ⟨⟨c1, c2, c3, c4⟩, c5, c6, c7, c8, c9⟩ := hS
    refine ⟨⟨fun t ht => by rw [(a7 t ht).1]; exact c1 t ht, hb _ _ _ _ (a6 2 (by decide) (by decide)) (fun t ht => hs t 1 ht) c2, hb _ _ _ _ (a6 3 (by decide) (by decide)) (fun t ht => hs t 2 ht) c3, hb _ _ _ _ (a6 4 (by decide) (by decide)) (fun t ht => hs t 4 ht) c4⟩, ?_, ?_, ?_, ?_, ?_⟩
    · rw [a6 5 (by decide) (by decide), a5 48 (by decide)]; exact c5
    · rw [a6 6 (by decide) (by decide), a5 49 (by decide)]; exact c6
    · rw [a6 7 (by decide) (by decide), a5 50 (by decide)]; exact c7
    · rw [a6 8 (by decide) (by decide), a5 51 (by decide)]; exact c8
    · intro t ht
      rw [hm, (a7 t (by omega)).2, a5 (32 + t) (by omega)]
      exact c9 t ht
  · intro k t hk ht
    rw [e65, hm]
    exact hD k t hk ht
  · intro t ht
    rw [hm, hs t 4 ht, a5 (32 + t) (by omega)]
    exact hO t ht
  · intro r hr
    rw [e58]
    exact hL r hr
  · unfold mLa
    rw [a5 50 (by decide)]
    exact hLa
def hsx (h : Nat) (I I' : Nat → Nat → Int32) : Prop := (I' 56 2 = I 56 2 ∧ I' 56 3 = I 56 3) ∧ (∀ c, h ≤ c → c ≤ h + 7 → I' c = I c) ∧ (∀ c, 58 ≤ c → c ≤ 65 → I' c = I c)
section K5
variable {E : tm_Env} {I I' I1 : Nat → Nat → Int32} {J : Nat → Nat → Int64} {R : Nat → Nat → Option Nat} {h d nr nt y u nx : Nat} {pl : Nat → Nat}
theorem rst_agx {h : Nat} {I I' : Nat → Nat → Int32} {c c' : Nat} {f f' : Nat → Int32} (a : hsx h I I') (hh : h = 4 ∨ h = 13) (h1 : ∀ k, 2 ≤ k → k < 9 → I' c' k = I c k) (h2 : ∀ t, t < 16 → I' (c' + 1) t = I (c + 1) t ∧ I' (c' + 2) t = I (c + 2) t) (h3 : ∀ q, q < 52 → f' q = f q) : agx h (rst I c f) (rst I' c' f') := by
  refine ⟨⟨?_, ?_⟩, fun k g1 g2 => ?_, fun k g1 g2 => ?_, fun q hq => ?_, fun k g1 g2 => ?_, fun t ht => ⟨?_, ?_⟩⟩
  · rw [rst_x (by decide), rst_x (by decide)]; exact a.1.1
  · rw [rst_x (by decide), rst_x (by decide)]; exact a.1.2
  · rw [rst_x (by omega), rst_x (by omega)]; exact a.2.1 k g1 g2
  · rw [rst_x (by omega), rst_x (by omega)]; exact a.2.2 k g1 g2
  · exact h3 q hq
  · exact h1 k g1 g2
  · exact (h2 t ht).1
  · exact (h2 t ht).2
theorem RNG_sax (hh : h = 4 ∨ h = 13) (a : hsx h I I') (h25 : I' 25 1 = I 25 1 ∧ I' 25 2 = I 25 2) (h56 : I' 56 1 = I 56 1) (hr : ∀ c, 27 ≤ c → c ≤ 50 → I' c = I c) (h57 : ∀ q, 52 ≤ q → q < 468 → I' 57 q = I 57 q) (hG : RNG I h nr nt u nx) : RNG I' h nr nt u nx := by
  obtain ⟨hu, hx, ⟨g1, g2, g3⟩, g⟩ := hG
  refine ⟨hu, hx, ⟨h25.1.trans g1, h25.2.trans g2, h56.trans g3⟩, fun j j1 j2 => ?_⟩
  obtain ⟨y', pl', q⟩ := g j j1 j2
  have hs : (nx + 7 - (u - j)) % 8 < 8 := Nat.mod_lt _ (by decide)
  refine ⟨y', pl', RW_agx hh (rst_agx a hh ?_ ?_ ?_) q⟩
  · intro k _ _
    unfold slt
    rw [hr _ (by omega) (by omega)]
  · intro t _
    unfold slt
    rw [hr _ (by omega) (by omega), hr _ (by omega) (by omega)]
    exact ⟨rfl, rfl⟩
  · intro k hk
    exact h57 _ (by omega) (by omega)
/-- nothing but the draft, and what the readers change -/
def frH (h : Nat) (I I' : Nat → Nat → Int32) : Prop := (∀ c, c ≠ 3 → ¬ (4 ≤ c ∧ c ≤ 20 ∧ ¬ (h ≤ c ∧ c ≤ h + 7)) → c ≠ 56 → (c < 69 ∨ 77 < c) → I' c = I c) ∧ ∀ k, k ≠ 16 → k ≠ 17 → k ≠ 18 → k ≠ 28 → I' 56 k = I 56 k
theorem good_frH (hR : tRef h d R) (f : frH h I I') (hI : INV I h nr nt) (hJ : JW J) : GOOD I' J R := by
  obtain ⟨⟨y, pl, u, nx, aa, k, hW, hG, hD⟩, n, tc, hT⟩ := hI
  have hh := hh_of hR
  have lo : ∀ c, c ≠ 3 → (h ≤ c ∧ c ≤ h + 7) → I' c = I c := fun c c1 c2 => f.1 c c1 (by omega) (by omega) (by omega)
  have hi : ∀ c, 21 ≤ c → c ≠ 56 → c < 69 → I' c = I c := fun c c1 c2 c3 => f.1 c (by omega) (by omega) c2 (by omega)
  have hs : hsx h I I' := ⟨⟨f.2 2 (by decide) (by decide) (by decide) (by decide), f.2 3 (by decide) (by decide) (by decide) (by decide)⟩, fun c c1 c2 => lo c (by omega) ⟨c1, c2⟩, fun c c1 c2 => hi c (by omega) (by omega) (by omega)⟩
  have e25 := hi 25 (by decide) (by decide) (by decide)
  have e57 := hi 57 (by decide) (by decide) (by decide)
  have e21 := hi 21 (by decide) (by decide) (by decide)
  have e22 := hi 22 (by decide) (by decide) (by decide)
  have e23 := hi 23 (by decide) (by decide) (by decide)
  have e55 := hi 55 (by decide) (by decide) (by decide)
  have e66 := hi 66 (by decide) (by decide) (by decide)
  have e82 : I' 82 = I 82 := f.1 82 (by decide) (by omega) (by decide) (by decide)
  have e1 : I' 1 = I 1 := f.1 1 (by decide) (by omega) (by decide) (by decide)
  have e2 : I' 2 = I 2 := f.1 2 (by decide) (by omega) (by decide) (by decide)
  have k1 := f.2 1 (by decide) (by decide) (by decide) (by decide)
  have k13 := f.2 13 (by decide) (by decide) (by decide) (by decide)
  have k35 := f.2 35 (by decide) (by decide) (by decide) (by decide)
  have k36 := f.2 36 (by decide) (by decide) (by decide) (by decide)
  refine ⟨h, d, nr, nt, hR, ⟨⟨y, pl, u, nx, aa, k, RW_agx hh ⟨hs.1, hs.2.1, hs.2.2, fun q _ => by rw [e57], fun q _ _ => by rw [e21], fun t _ => by rw [e22, e23]; exact ⟨rfl, rfl⟩⟩ hW, RNG_sax hh hs (by rw [e25]; exact ⟨rfl, rfl⟩) k1 (fun c c1 c2 => hi c (by omega) (by omega) (by omega)) (fun q _ _ => by rw [e57]) hG, DB_same e55 k35 k36 e82 hD⟩, n, tc, ?_, ?_⟩, hJ⟩
  · unfold TX
    rw [k13, e66]
    exact hT.1
  · unfold TXc
    rw [e1, e2]
    exact hT.2
/-! two memories that are alike behind cell 56: what is read is the same -/
def Wc (A M : Nat → Nat → Int32) : Nat → Nat → Int32 := fun c => if c < 56 then A c else M c
theorem Wc_c {A M : Nat → Nat → Int32} {c : Nat} (hc : 56 ≤ c) : Wc A M c = M c := if_neg (by omega)
theorem Wc_up {A M : Nat → Nat → Int32} {c : Nat} {f : Nat → Int32} (hc : 56 ≤ c) : va_up (Wc A M) c f = Wc A (va_up M c f) := by
  funext k
  rw [vu]
  unfold Wc
  by_cases e : k < 56
  · rw [if_pos e, if_pos e, if_neg (by omega)]
  · rw [if_neg e, if_neg e, vu]
variable {A M M' : Nat → Nat → Int32} {n p nr' nt' : Nat} {tc pp : Nat → Nat}
theorem itB_W : itB (Wc A M) n tc nr nt p = (itB M n tc nr nt p).map (fun w => (Wc A w.1, w.2)) := by
  have e1 : ∀ v, rdRoom (Wc A M) nr v = Wc A (rdRoom M nr v) := fun v => by
    unfold rdRoom
    simp only [Wc_up, Wc_c, Nat.reduceLeDiff]
  have e2 : ∀ p, rdThg (Wc A M) n tc nt p = Wc A (rdThg M n tc nt p) := fun p => by
    unfold rdThg
    simp only [Wc_up, Wc_c, Nat.reduceLeDiff]
  have e3 : ∀ p, rdWy (Wc A M) n tc p = Wc A (rdWy M n tc p) := fun p => by
    unfold rdWy
    by_cases c : dg n tc (p + 3) = true
    · simp only [if_pos c, Wc_up, Wc_c, Nat.reduceLeDiff]
    · simp only [if_neg c, Wc_up, Wc_c, Nat.reduceLeDiff]
  have e4 : ∀ p, thgOk (Wc A M) n tc nr nt p = thgOk M n tc nr nt p := fun p => by
    unfold thgOk plOk
    simp only [Wc_c, Nat.reduceLeDiff]
  have e5 : ∀ p, wyOk (Wc A M) n tc nr nt p = wyOk M n tc nr nt p := fun p => by
    unfold wyOk drOk
    simp only [Wc_c, Nat.reduceLeDiff]
  unfold itB
  simp only [e1, e2, e3, e4, e5]
  repeat' split
  all_goals rfl
theorem itm_W : itm (Wc A M) n tc nr nt p = (itm M n tc nr nt p).map (fun w => (Wc A w.1, w.2)) := by
  unfold itm
  rw [itB_W]
  cases itB M n tc nr nt p with
  | none => rfl
  | some w =>
    obtain ⟨M1, a, b, q⟩ := w
    show (if cc n tc q = 59 then some (Wc A M1, a, b, q + 1) else none) = (if cc n tc q = 59 then some (M1, a, b, q + 1) else none).map _
    split <;> rfl
theorem rds_W : ∀ f (M : Nat → Nat → Int32) nr nt p, rds n tc f (Wc A M) nr nt p = ((rds n tc f M nr nt p).1, Wc A (rds n tc f M nr nt p).2.1, (rds n tc f M nr nt p).2.2)
  | 0, M, nr, nt, p => rfl
  | f + 1, M, nr, nt, p => by
    rw [rds, rds]
    by_cases c : p < n
    · rw [if_pos c, if_pos c, itm_W]
      cases hm : itm M n tc nr nt p with
      | none => rfl
      | some w =>
        obtain ⟨M2, a, b, q⟩ := w
        exact rds_W f M2 a b q
    · rw [if_neg c, if_neg c]
theorem DR_W (hD : DR M I d nr nt pp) : DR (Wc A M) I d nr nt pp := by
  unfold DR dB cB at *
  simp only [Wc_c, Nat.reduceLeDiff]
  exact hD
theorem rd0_W : rd0 (Wc A M) = Wc A (rd0 M) := by
  unfold rd0
  simp only [Wc_up, Wc_c, Nat.reduceLeDiff]
theorem Wc_eq (h : ∀ c, 56 ≤ c → I' c = I c) : I' = Wc I' I := by
  funext c
  unfold Wc
  by_cases e : c < 56
  · rw [if_pos e]
  · rw [if_neg e, h c (by omega)]
theorem rd0_76 {k : Nat} (hk : k < 24) : rd0 I 76 k = -4 ∧ rd0 I 77 k = -4 := ⟨if_pos hk, if_pos hk⟩
theorem rd0_I : rdI (rd0 I) 0 0 := ⟨rfl, by decide, rfl, by decide⟩
theorem frD_H (dd : (h = 4 ∧ d = 13) ∨ (h = 13 ∧ d = 4)) (a : frD I I1 d) : ∀ c, c ≠ 3 → ¬ (4 ≤ c ∧ c ≤ 20 ∧ ¬ (h ≤ c ∧ c ≤ h + 7)) → I1 c = I c := fun c c1 c2 => a c c1 (by omega)
theorem frH_of (dd : (h = 4 ∧ d = 13) ∨ (h = 13 ∧ d = 4)) (a : frD I I1 d) (b : frM I1 I') : frH h I I' := by
  refine ⟨fun c c1 c2 c3 c4 => (b.1 c c3 c4).trans (frD_H dd a c c1 c2), fun k k1 k2 k3 k4 => ?_⟩
  rw [b.2 k k1 k2 k3 k4, a 56 (by decide) (by omega)]
theorem st_fault (g : GOOD I J R) : STEP E 67 [.ref 0] 68 [.ref 56] I J R := by
  obtain ⟨h, d, nr, nt, hR, ⟨hI, n, tc, hT⟩, hJ⟩ := g
  have dd := hR.2.2.1
  have d2 := dd_of hR
  rcases hrd : rds n tc (n + 1) (rd0 I) 0 0 0 with ⟨r, M', nr', nt'⟩
  cases r with
  | none =>
    obtain ⟨I1, pp', f, hD, st⟩ := c_readHouse_1 (E := E) (J := J) hR hT.2 (fun k hk => rd0_76 hk) rfl rd0_I hrd
    have ew : I1 = Wc I1 I := Wc_eq (fun c hc => f c (by omega) (by omega))
    have hT1 : TX I1 n tc := by
      unfold TX
      rw [f 56 (by decide) (by omega), f 66 (by decide) (by omega)]
      exact hT.1
    have hr1 : rds n tc (n + 1) (rd0 I1) 0 0 0 = (none, Wc I1 M', nr', nt') := by
      rw [ew, rd0_W, rds_W, hrd, ← ew]
    have fM := (m_rds_1 (E := E) (J := J) hR (n + 1) (rd0 I1) 0 0 0 (by omega) (by omega) (TX_fr (frM_rd0 I1) hT1) rd0_I _ _ _ hr1).1.2
    refine ⟨-4, I1, R, hr (Wc I1 M') n, fun Q => ?_, fun Q => ?_, good_frH hR (frH_of dd f (frM_hr (frM_trans (frM_rd0 I1) fM))) ⟨hI, n, tc, hT⟩ hJ⟩
    · simp only [e_67_0, e_67_1, e_67_4, e_67_7, rf_0_0 hR, rf_0_1 hR, rf_0_2 hR, rf_0_3 hR, rf_0_4 hR, rf_0_5 hR, rf_0_6 hR, rf_1_0 hR, rf_3_0 hR, rf_3_2 hR, rf_4_3 hR, rf_4_4 hR, rf_4_5 hR, rf_4_6 hR, rf_4_7 hR, rf_4_8 hR, rf_4_9 hR, rf_12_1 hR, rf_13_3 hR, rf_13_4 hR, rf_13_5 hR, rf_13_6 hR, rf_13_7 hR, rf_13_8 hR, rf_13_9 hR, rf_21_0 hR, rf_21_1 hR, rf_24_0 hR, rf_25_0 hR, rf_26_0 hR, rf_26_1 hR, rf_26_2 hR, rf_26_3 hR, rf_26_4 hR, rf_26_5 hR, rf_26_6 hR, rf_26_7 hR, rf_27_0 hR, rf_27_1 hR, rf_30_0 hR, rf_30_1 hR, rf_33_0 hR, rf_33_1 hR, rf_36_0 hR, rf_36_1 hR, rf_39_0 hR, rf_39_1 hR, rf_42_0 hR, rf_42_1 hR, rf_45_0 hR, rf_45_1 hR, rf_48_0 hR, rf_48_1 hR, rf_51_0 hR, rf_51_1 hR, rf_51_6 hR, rf_51_7 hR, rf_h_3 hR, rf_d_3 hR, rf_h_4 hR, rf_d_4 hR, rf_h_5 hR, rf_d_5 hR, rf_h_6 hR, rf_d_6 hR, rf_h_7 hR, rf_d_7 hR, rf_h_8 hR, rf_d_8 hR, rf_h_9 hR, rf_d_9 hR, rf_12_0 hR, rf_3_1 hR, kn_0, kn_1, kn_2, kn_3, kn_4, kn_5, kn_6, kn_7, kn_8, kn_9, kn_10, kn_11, kn_12, kn_13, kn_14, kn_15, kn_16, kn_17, kn_18, kn_19, kn_20, kn_21, kn_22, kn_23, kn_24, kn_25, kn_26, kn_27, kn_28, kn_29, kn_30, kn_31, kn_32, kn_33, kn_34, kn_35, kn_36, kn_37, kn_38, kn_39, kn_40, kn_41, kn_42, kn_43, kn_44, kn_45, kn_46, kn_47, kn_48, kn_49, kn_50, kn_51, kn_52, kn_53, kn_54, kn_55, ln_2, ln_5, ln_6, ln_7, ln_8, ln_9, ln_10, ln_11, ln_14, ln_15, ln_16, ln_17, ln_18, ln_19, ln_20, ln_22, ln_23, ln_26, ln_28, ln_29, ln_31, ln_32, ln_34, ln_35, ln_37, ln_38, ln_40, ln_41, ln_43, ln_44, ln_46, ln_47, ln_49, ln_50, ln_52, kn_h hR, lt_h hR, kn_h1 hR, ln_h1 hR, lt_h1 hR, kn_h2 hR, ln_h2 hR, lt_h2 hR, kn_h3 hR, ln_h3 hR, lt_h3 hR, kn_h4 hR, ln_h4 hR, lt_h4 hR, kn_h5 hR, ln_h5 hR, lt_h5 hR, kn_h6 hR, ln_h6 hR, lt_h6 hR, kn_h7 hR, ln_h7 hR, lt_h7 hR, kn_d hR, lt_d hR, kn_d1 hR, ln_d1 hR, lt_d1 hR, kn_d2 hR, ln_d2 hR, lt_d2 hR, kn_d3 hR, ln_d3 hR, lt_d3 hR, kn_d4 hR, ln_d4 hR, lt_d4 hR, kn_d5 hR, ln_d5 hR, lt_d5 hR, kn_d6 hR, ln_d6 hR, lt_d6 hR, kn_d7 hR, ln_d7 hR, lt_d7 hR, va_rf_some, push_s, push_n, nb0, nb1, nbb, Nat.reduceLT, st]
    · have mf := fun {Q} => m_fault_1 (E := E) (Q := Q) (J := J) hR hT1 hr1
      simp only [e_68_0, e_68_1, e_68_4, rf_56_0 hR, rf_56_4 hR, rf_56_5 hR, rf_56_6 hR, rf_56_7 hR, rf_56_8 hR, rf_56_9 hR, rf_56_10 hR, rf_56_11 hR, rf_56_12 hR, rf_56_14 hR, rf_56_15 hR, rf_56_19 hR, rf_56_20 hR, rf_56_21 hR, rf_56_22 hR, rf_56_23 hR, rf_56_24 hR, rf_56_25 hR, rf_56_26 hR, rf_56_27 hR, rf_56_29 hR, rf_56_32 hR, rf_56_33 hR, rf_56_34 hR, rf_56_37 hR, rf_56_38 hR, kn_56, kn_57, kn_58, kn_59, kn_60, kn_61, kn_62, kn_63, kn_64, kn_65, kn_66, kn_67, kn_68, kn_69, kn_70, kn_71, kn_72, kn_73, kn_74, kn_75, kn_76, kn_77, kn_78, kn_79, kn_80, kn_81, kn_82, kn_83, ln_57, ln_58, ln_59, ln_60, ln_61, ln_62, ln_63, ln_64, ln_65, ln_66, ln_67, ln_68, ln_69, ln_70, ln_71, ln_72, ln_73, ln_74, ln_75, ln_76, ln_77, ln_78, ln_79, ln_80, ln_81, ln_82, ln_83, va_rf_some, push_s, push_n, nb0, nb1, nbb, Nat.reduceLT, mf]
  | some b =>
    obtain ⟨I1, f, st⟩ := c_readHouse_0 (E := E) (J := J) hR hT.2 (fun k hk => rd0_76 hk) rfl rd0_I hrd
    have ew : I1 = Wc I1 I := Wc_eq (fun c hc => f c (by omega) (by omega))
    have hT1 : TX I1 n tc := by
      unfold TX
      rw [f 56 (by decide) (by omega), f 66 (by decide) (by omega)]
      exact hT.1
    have hr1 : rds n tc (n + 1) (rd0 I1) 0 0 0 = (some b, Wc I1 M', nr', nt') := by
      rw [ew, rd0_W, rds_W, hrd, ← ew]
    obtain ⟨I2, f2, mf⟩ := m_fault_0 (E := E) (J := J) hR hT1 hr1
    refine ⟨nI b, I1, R, I2, fun Q => ?_, fun Q => ?_, good_frH hR (frH_of dd f f2) ⟨hI, n, tc, hT⟩ hJ⟩
    · simp only [e_67_0, e_67_1, e_67_4, e_67_7, rf_0_0 hR, rf_0_1 hR, rf_0_2 hR, rf_0_3 hR, rf_0_4 hR, rf_0_5 hR, rf_0_6 hR, rf_1_0 hR, rf_3_0 hR, rf_3_2 hR, rf_4_3 hR, rf_4_4 hR, rf_4_5 hR, rf_4_6 hR, rf_4_7 hR, rf_4_8 hR, rf_4_9 hR, rf_12_1 hR, rf_13_3 hR, rf_13_4 hR, rf_13_5 hR, rf_13_6 hR, rf_13_7 hR, rf_13_8 hR, rf_13_9 hR, rf_21_0 hR, rf_21_1 hR, rf_24_0 hR, rf_25_0 hR, rf_26_0 hR, rf_26_1 hR, rf_26_2 hR, rf_26_3 hR, rf_26_4 hR, rf_26_5 hR, rf_26_6 hR, rf_26_7 hR, rf_27_0 hR, rf_27_1 hR, rf_30_0 hR, rf_30_1 hR, rf_33_0 hR, rf_33_1 hR, rf_36_0 hR, rf_36_1 hR, rf_39_0 hR, rf_39_1 hR, rf_42_0 hR, rf_42_1 hR, rf_45_0 hR, rf_45_1 hR, rf_48_0 hR, rf_48_1 hR, rf_51_0 hR, rf_51_1 hR, rf_51_6 hR, rf_51_7 hR, rf_h_3 hR, rf_d_3 hR, rf_h_4 hR, rf_d_4 hR, rf_h_5 hR, rf_d_5 hR, rf_h_6 hR, rf_d_6 hR, rf_h_7 hR, rf_d_7 hR, rf_h_8 hR, rf_d_8 hR, rf_h_9 hR, rf_d_9 hR, rf_12_0 hR, rf_3_1 hR, kn_0, kn_1, kn_2, kn_3, kn_4, kn_5, kn_6, kn_7, kn_8, kn_9, kn_10, kn_11, kn_12, kn_13, kn_14, kn_15, kn_16, kn_17, kn_18, kn_19, kn_20, kn_21, kn_22, kn_23, kn_24, kn_25, kn_26, kn_27, kn_28, kn_29, kn_30, kn_31, kn_32, kn_33, kn_34, kn_35, kn_36, kn_37, kn_38, kn_39, kn_40, kn_41, kn_42, kn_43, kn_44, kn_45, kn_46, kn_47, kn_48, kn_49, kn_50, kn_51, kn_52, kn_53, kn_54, kn_55, ln_2, ln_5, ln_6, ln_7, ln_8, ln_9, ln_10, ln_11, ln_14, ln_15, ln_16, ln_17, ln_18, ln_19, ln_20, ln_22, ln_23, ln_26, ln_28, ln_29, ln_31, ln_32, ln_34, ln_35, ln_37, ln_38, ln_40, ln_41, ln_43, ln_44, ln_46, ln_47, ln_49, ln_50, ln_52, kn_h hR, lt_h hR, kn_h1 hR, ln_h1 hR, lt_h1 hR, kn_h2 hR, ln_h2 hR, lt_h2 hR, kn_h3 hR, ln_h3 hR, lt_h3 hR, kn_h4 hR, ln_h4 hR, lt_h4 hR, kn_h5 hR, ln_h5 hR, lt_h5 hR, kn_h6 hR, ln_h6 hR, lt_h6 hR, kn_h7 hR, ln_h7 hR, lt_h7 hR, kn_d hR, lt_d hR, kn_d1 hR, ln_d1 hR, lt_d1 hR, kn_d2 hR, ln_d2 hR, lt_d2 hR, kn_d3 hR, ln_d3 hR, lt_d3 hR, kn_d4 hR, ln_d4 hR, lt_d4 hR, kn_d5 hR, ln_d5 hR, lt_d5 hR, kn_d6 hR, ln_d6 hR, lt_d6 hR, kn_d7 hR, ln_d7 hR, lt_d7 hR, va_rf_some, push_s, push_n, nb0, nb1, nbb, Nat.reduceLT, st]
    · simp only [e_68_0, e_68_1, e_68_4, rf_56_0 hR, rf_56_4 hR, rf_56_5 hR, rf_56_6 hR, rf_56_7 hR, rf_56_8 hR, rf_56_9 hR, rf_56_10 hR, rf_56_11 hR, rf_56_12 hR, rf_56_14 hR, rf_56_15 hR, rf_56_19 hR, rf_56_20 hR, rf_56_21 hR, rf_56_22 hR, rf_56_23 hR, rf_56_24 hR, rf_56_25 hR, rf_56_26 hR, rf_56_27 hR, rf_56_29 hR, rf_56_32 hR, rf_56_33 hR, rf_56_34 hR, rf_56_37 hR, rf_56_38 hR, kn_56, kn_57, kn_58, kn_59, kn_60, kn_61, kn_62, kn_63, kn_64, kn_65, kn_66, kn_67, kn_68, kn_69, kn_70, kn_71, kn_72, kn_73, kn_74, kn_75, kn_76, kn_77, kn_78, kn_79, kn_80, kn_81, kn_82, kn_83, ln_57, ln_58, ln_59, ln_60, ln_61, ln_62, ln_63, ln_64, ln_65, ln_66, ln_67, ln_68, ln_69, ln_70, ln_71, ln_72, ln_73, ln_74, ln_75, ln_76, ln_77, ln_78, ln_79, ln_80, ln_81, ln_82, ln_83, va_rf_some, push_s, push_n, nb0, nb1, nbb, Nat.reduceLT, mf]
end K5
