/-! ===== class and model: what is said, the branches ===== -/
def BRC (E : tm_Env) (J : Nat → Nat → Int64) (R : Nat → Nat → Option Nat) (I Ib : Nat → Nat → Int32) (h nr nt c : Nat) (wn : Nat → Nat) (code : Nat) : Prop :=
  ∃ v I1, (∀ Q, tEv E 136 35 [.ref 0, .int (knd code)] [] (mS Ib J R) Q = Q (some v) (mS I1 J R)) ∧ (∀ c, 56 ≤ c → I1 c = I c) ∧ ∀ Im, frM2 I1 Im → SEN Im c wn code → ∃ I', (∀ Q, tEv E 188 14 [.ref 56, .int (cdV code)] [] (mS Im J R) Q = Q (some v) (mS I' J R)) ∧ INVw I' h nr nt ∧ txs I I'
theorem frM2_Q {I1 Im : Nat → Nat → Int32} (f : frM2 I1 Im) : frQ I1 Im := ⟨fun c hc => f.1 c (by omega), f.2.1, f.2.2.1 1 (by decide) (by decide), f.2.2.1 2 (by decide) (by decide), f.2.2.1 3 (by decide) (by decide), f.2.2.1 13 (by decide) (by decide)⟩
theorem frQ_b {I Ib : Nat → Nat → Int32} (b1 : ∀ c, c < 51 → Ib c = I c) (b2 : ∀ c, 55 ≤ c → Ib c = I c) : frQ I Ib := ⟨b1, fun c c1 _ => b2 c (by omega), by rw [b2 56 (by decide)], by rw [b2 56 (by decide)], by rw [b2 56 (by decide)], by rw [b2 56 (by decide)]⟩
theorem frQ_55 (I : Nat → Nat → Int32) (F : Nat → Int32) : frQ I (va_up I 55 F) := ⟨fun c hc => by rw [vu, if_neg (by omega)], fun c c1 _ => by rw [vu, if_neg (by omega)], rfl, rfl, rfl, rfl⟩
theorem frQ_35 (I : Nat → Nat → Int32) (v : Int32) : frQ I (va_up I 56 (upd (I 56) 35 v)) := ⟨fun c hc => by rw [vu, if_neg (by omega)], fun c c1 _ => by rw [vu, if_neg (by omega)], rfl, rfl, rfl, rfl⟩
theorem frQ_36 (I : Nat → Nat → Int32) (v : Int32) : frQ I (va_up I 56 (upd (I 56) 36 v)) := ⟨fun c hc => by rw [vu, if_neg (by omega)], fun c c1 _ => by rw [vu, if_neg (by omega)], rfl, rfl, rfl, rfl⟩
theorem frQ_82 (I : Nat → Nat → Int32) (F : Nat → Int32) : frQ I (va_up I 82 F) := ⟨fun c hc => by rw [vu, if_neg (by omega)], fun c c1 c2 => by rw [vu, if_neg (by omega)], rfl, rfl, rfl, rfl⟩
theorem mmay_cong {I I' : Nat → Nat → Int32} (h61 : I' 61 = I 61) (h62 : I' 62 = I 62) (pl : Nat → Nat) (nt x : Nat) : mmay I' pl nt x = mmay I pl nt x := by
  unfold mmay
  rw [mtake_cong h61 h62]
  unfold mtr
  rw [h62]
theorem tka_cong {I I' : Nat → Nat → Int32} (h61 : I' 61 = I 61) (h62 : I' 62 = I 62) (pl : Nat → Nat) (nt : Nat) (s : Nat → Bool) : ∀ n, tka I' pl nt s n = tka I pl nt s n
  | 0 => rfl
  | n + 1 => by
    rw [tka, tka, tka_cong h61 h62 pl nt s n, mmay_cong h61 h62]
theorem tkb_cong {I I' : Nat → Nat → Int32} (h61 : I' 61 = I 61) (h62 : I' 62 = I 62) (pl : Nat → Nat) (nt : Nat) (s : Nat → Bool) (n : Nat) : tkb I' pl nt s n = tkb I pl nt s n := by
  unfold tkb
  rw [tka_cong h61 h62 pl nt s n, mmay_cong h61 h62]
section H4
variable {E : tm_Env} {Q : Option Int32 → tm_St → Prop} {I Ib : Nat → Nat → Int32} {J : Nat → Nat → Int64} {R : Nat → Nat → Option Nat} {h d : Nat} {nr nt y u nx a k c code : Nat} {pl : Nat → Nat} {wn : Nat → Nat}
theorem br_99 (hR : tRef h d R) (hh : h = 4 ∨ h = 13) (hW : RW I h nr nt y pl) (hG : RNG I h nr nt u nx) (hD : DB I nt a k) (b1 : ∀ c, c < 51 → Ib c = I c) (b2 : ∀ c, 55 ≤ c → Ib c = I c) : BRC E J R I Ib h nr nt c wn 99 := by
  refine ⟨2, Ib, fun Q => ?_, fun c hc => b2 c (by omega), fun Im fm _ => ⟨Im, fun Q => m_say_2 hR, ⟨y, pl, u, nx, a, k, ?_, ?_, ?_⟩, ?_⟩⟩
  · simp only [e_136_35, e_136_36, e_136_39, e_136_40, rf_0_0 hR, rf_0_1 hR, rf_0_2 hR, rf_0_3 hR, rf_0_4 hR, rf_0_5 hR, rf_0_6 hR, rf_1_0 hR, rf_3_0 hR, rf_3_2 hR, rf_4_3 hR, rf_4_4 hR, rf_4_5 hR, rf_4_6 hR, rf_4_7 hR, rf_4_8 hR, rf_4_9 hR, rf_12_1 hR, rf_13_3 hR, rf_13_4 hR, rf_13_5 hR, rf_13_6 hR, rf_13_7 hR, rf_13_8 hR, rf_13_9 hR, rf_21_0 hR, rf_21_1 hR, rf_24_0 hR, rf_25_0 hR, rf_26_0 hR, rf_26_1 hR, rf_26_2 hR, rf_26_3 hR, rf_26_4 hR, rf_26_5 hR, rf_26_6 hR, rf_26_7 hR, rf_27_0 hR, rf_27_1 hR, rf_30_0 hR, rf_30_1 hR, rf_33_0 hR, rf_33_1 hR, rf_36_0 hR, rf_36_1 hR, rf_39_0 hR, rf_39_1 hR, rf_42_0 hR, rf_42_1 hR, rf_45_0 hR, rf_45_1 hR, rf_48_0 hR, rf_48_1 hR, rf_51_0 hR, rf_51_1 hR, rf_51_6 hR, rf_51_7 hR, rf_h_3 hR, rf_d_3 hR, rf_h_4 hR, rf_d_4 hR, rf_h_5 hR, rf_d_5 hR, rf_h_6 hR, rf_d_6 hR, rf_h_7 hR, rf_d_7 hR, rf_h_8 hR, rf_d_8 hR, rf_h_9 hR, rf_d_9 hR, rf_12_0 hR, rf_3_1 hR, kn_0, kn_1, kn_2, kn_3, kn_4, kn_5, kn_6, kn_7, kn_8, kn_9, kn_10, kn_11, kn_12, kn_13, kn_14, kn_15, kn_16, kn_17, kn_18, kn_19, kn_20, kn_21, kn_22, kn_23, kn_24, kn_25, kn_26, kn_27, kn_28, kn_29, kn_30, kn_31, kn_32, kn_33, kn_34, kn_35, kn_36, kn_37, kn_38, kn_39, kn_40, kn_41, kn_42, kn_43, kn_44, kn_45, kn_46, kn_47, kn_48, kn_49, kn_50, kn_51, kn_52, kn_53, kn_54, kn_55, ln_2, ln_5, ln_6, ln_7, ln_8, ln_9, ln_10, ln_11, ln_14, ln_15, ln_16, ln_17, ln_18, ln_19, ln_20, ln_22, ln_23, ln_26, ln_28, ln_29, ln_31, ln_32, ln_34, ln_35, ln_37, ln_38, ln_40, ln_41, ln_43, ln_44, ln_46, ln_47, ln_49, ln_50, ln_52, kn_h hR, lt_h hR, kn_h1 hR, ln_h1 hR, lt_h1 hR, kn_h2 hR, ln_h2 hR, lt_h2 hR, kn_h3 hR, ln_h3 hR, lt_h3 hR, kn_h4 hR, ln_h4 hR, lt_h4 hR, kn_h5 hR, ln_h5 hR, lt_h5 hR, kn_h6 hR, ln_h6 hR, lt_h6 hR, kn_h7 hR, ln_h7 hR, lt_h7 hR, kn_d hR, lt_d hR, kn_d1 hR, ln_d1 hR, lt_d1 hR, kn_d2 hR, ln_d2 hR, lt_d2 hR, kn_d3 hR, ln_d3 hR, lt_d3 hR, kn_d4 hR, ln_d4 hR, lt_d4 hR, kn_d5 hR, ln_d5 hR, lt_d5 hR, kn_d6 hR, ln_d6 hR, lt_d6 hR, kn_d7 hR, ln_d7 hR, lt_d7 hR, va_rf_some, push_s, push_n, nb0, nb1, nbb, Nat.reduceLT, show (knd 99 = 0) = True from eq_true rfl, if_true]
  · exact frQ_W hh (frQ_trans (frQ_b b1 b2) (frM2_Q fm)) hW
  · exact frQ_G hh (frQ_trans (frQ_b b1 b2) (frM2_Q fm)) hG
  · exact DB_same ((fm.1 55 (by decide)).trans (b2 55 (by decide))) ((fm.2.2.1 35 (by decide) (by decide)).trans (by rw [b2 56 (by decide)])) ((fm.2.2.1 36 (by decide) (by decide)).trans (by rw [b2 56 (by decide)])) (fm.2.2.2.trans (b2 82 (by decide))) hD
  · exact frQ_txs (frQ_trans (frQ_b b1 b2) (frM2_Q fm))
/-- nothing is done, and there is no doubt any more -/
theorem br_none (hR : tRef h d R) (hh : h = 4 ∨ h = 13) (hW : RW I h nr nt y pl) (hG : RNG I h nr nt u nx) (hD : DB I nt a k) (b1 : ∀ c, c < 51 → Ib c = I c) (b2 : ∀ c, 55 ≤ c → Ib c = I c) {v : Int32} (hc : ∀ Q, tEv E 136 35 [.ref 0, .int (knd code)] [] (mS Ib J R) Q = Q (some v) (mS (va_up Ib 55 (upd (Ib 55) 0 0)) J R)) (hm : ∀ Im, frQ I Im → ∀ Q, tEv E 188 14 [.ref 56, .int (cdV code)] [] (mS Im J R) Q = Q (some v) (mS (va_up Im 56 (upd (Im 56) 35 0)) J R)) : BRC E J R I Ib h nr nt c wn code := by
  refine ⟨v, _, hc, fun c hc => by rw [vu, if_neg (by omega)]; exact b2 c (by omega), fun Im fm _ => ?_⟩
  have q1 : frQ I Im := frQ_trans (frQ_trans (frQ_b b1 b2) (frQ_55 Ib _)) (frM2_Q fm)
  have q2 := frQ_trans q1 (frQ_35 Im 0)
  refine ⟨_, hm Im q1, ⟨y, pl, u, nx, a, 0, frQ_W hh q2 hW, frQ_G hh q2 hG, DB_0 hD.1.2 ?_ ?_ ?_⟩, frQ_txs q2⟩
  · rw [vu, if_neg (by decide), fm.1 55 (by decide)]
    rfl
  · rw [vu_eq, ud, if_pos rfl]
  · rw [vu_eq, ud, if_neg (by decide), fm.2.2.1 36 (by decide) (by decide), vu, if_neg (by decide), b2 56 (by decide)]
    exact hD.2.1.2.2
/-- done, and a turn more -/
theorem br_done (hR : tRef h d R) (hh : h = 4 ∨ h = 13) (hW : RW I h nr nt y pl) (hG : RNG I h nr nt u nx) (hD : DB I nt a k) (b1 : ∀ c, c < 51 → Ib c = I c) (b2 : ∀ c, 55 ≤ c → Ib c = I c) {I1 I3 B : Nat → Nat → Int32} (hk : kpd (va_up Ib 55 (upd (Ib 55) 0 0)) I1 nx u) (hB : ∀ c, c ≠ 21 → c ≠ 22 → B c = I1 c) (ht : etd B I3) (hc : ∀ Q, tEv E 136 35 [.ref 0, .int (knd code)] [] (mS Ib J R) Q = Q (some 0) (mS I3 J R))
    (hm : ∀ Im, frQ Im (va_up Im 56 (upd (Im 56) 35 0)) → (∀ c, 57 ≤ c → c ≤ 77 → Im c = I c) → (Im 56 1 = I 56 1 ∧ Im 56 2 = I 56 2 ∧ Im 56 3 = I 56 3) → ∃ G y' pl', (∀ q, 52 ≤ q → q < 468 → G q = mmind (I 57) u q) ∧ RW (va_up (va_up (va_up (va_up Ib 55 (upd (Ib 55) 0 0)) 22 (B 22)) 21 (B 21)) 57 G) h nr nt y' pl' ∧ ∀ Q, tEv E 188 14 [.ref 56, .int (cdV code)] [] (mS Im J R) Q = Q (some 0) (mS (mfin (va_up Im 56 (upd (Im 56) 35 0)) u (mturn G nt)) J R)) : BRC E J R I Ib h nr nt c wn code := by
  have hx := hG.2.1
  have hq0 : frQ I (va_up Ib 55 (upd (Ib 55) 0 0)) := frQ_trans (frQ_b b1 b2) (frQ_55 Ib _)
  have hi3 : ∀ c, 55 ≤ c → I3 c = va_up Ib 55 (upd (Ib 55) 0 0) c := fun c hc => by
    rw [ht.1 c (by omega) (by omega), hB c (by omega) (by omega), hk.1 c (by omega) (by omega) (by omega) (by omega)]
  have hi0 : ∀ c, 56 ≤ c → va_up Ib 55 (upd (Ib 55) 0 0) c = I c := fun c hc => by
    rw [vu, if_neg (by omega)]
    exact b2 c (by omega)
  refine ⟨0, I3, hc, fun c hc => by rw [hi3 c (by omega), hi0 c hc], fun Im fm _ => ?_⟩
  have k57 : ∀ c, 57 ≤ c → c ≤ 77 → Im c = I c := fun c c1 c2 => by rw [fm.2.1 c c1 c2, hi3 c (by omega), hi0 c (by omega)]
  have k56 : ∀ j, j ≠ 30 → j ≠ 31 → Im 56 j = I 56 j := fun j j1 j2 => by rw [fm.2.2.1 j j1 j2, hi3 56 (by decide), hi0 56 (by decide)]
  obtain ⟨G, y', pl', g1, g2, g3⟩ := hm Im (frQ_35 Im 0) k57 ⟨k56 1 (by decide) (by decide), k56 2 (by decide) (by decide), k56 3 (by decide) (by decide)⟩
  have fi : frI (va_up Ib 55 (upd (Ib 55) 0 0)) I3 (va_up Im 56 (upd (Im 56) 35 0)) := by
    refine ⟨fun c hc => ?_, fun c c1 c2 => ?_, ?_, ?_, ?_, ?_⟩
    · rw [vu, if_neg (by omega)]
      exact fm.1 c hc
    · rw [vu, if_neg (by omega), k57 c c1 c2, hi0 c (by omega)]
    · rw [vu_eq, ud, if_neg (by decide), k56 1 (by decide) (by decide), hi0 56 (by decide)]
    · rw [vu_eq, ud, if_neg (by decide), k56 2 (by decide) (by decide), hi0 56 (by decide)]
    · rw [vu_eq, ud, if_neg (by decide), k56 3 (by decide) (by decide), hi0 56 (by decide)]
    · rw [vu_eq, ud, if_neg (by decide), k56 13 (by decide) (by decide), hi0 56 (by decide)]
  obtain ⟨r1, r2⟩ := done_ok hh (frQ_W hh hq0 hW) (frQ_G hh hq0 hG) hk hB ht fi (fun q q1 q2 => by rw [g1 q q1 q2, hi0 57 (by decide)]) g2
  refine ⟨_, g3, ⟨y', pl', _, _, a, 0, r1, r2, DB_0 hD.1.2 ?_ ?_ ?_⟩, fun c hc => ?_, ?_, ?_⟩
  · rw [mfin_x (by decide) (by decide), vu, if_neg (by decide), fm.1 55 (by decide), hi3 55 (by decide)]
    rfl
  · unfold mfin
    rw [vu, if_neg (by decide), vu_eq, ud, if_pos rfl]
  · rw [mfin_56 (by decide) (by decide), vu_eq, ud, if_neg (by decide), k56 36 (by decide) (by decide)]
    exact hD.2.1.2.2
  · rw [mfin_x (by omega) (by omega), vu, if_neg (by omega), fm.1 c (by omega), ht.1 c (by omega) (by omega), hB c (by omega) (by omega), hk.1 c (by omega) (by omega) (by omega) (by omega), hq0.1 c (by omega)]
  · rw [mfin_x (by decide) (by decide), vu, if_neg (by decide), k57 66 (by decide) (by decide)]
  · rw [mfin_56 (by decide) (by decide), vu_eq, ud, if_neg (by decide), k56 13 (by decide) (by decide)]
theorem br_12 (hR : tRef h d R) (hh : h = 4 ∨ h = 13) (hW : RW I h nr nt y pl) (hG : RNG I h nr nt u nx) (hD : DB I nt a k) (b1 : ∀ c, c < 51 → Ib c = I c) (b2 : ∀ c, 55 ≤ c → Ib c = I c) : BRC E J R I Ib h nr nt c wn 12 := by
  have hq0 : frQ I (va_up Ib 55 (upd (Ib 55) 0 0)) := frQ_trans (frQ_b b1 b2) (frQ_55 Ib _)
  have hW0 := frQ_W hh hq0 hW
  have hG0 := frQ_G hh hq0 hG
  have h16 := RR_16 hW.1
  have e61 : va_up Ib 55 (upd (Ib 55) 0 0) 61 = I 61 := hq0.2.1 61 (by decide) (by decide)
  have e62 : va_up Ib 55 (upd (Ib 55) 0 0) 62 = I 62 := hq0.2.1 62 (by decide) (by decide)
  have es : msee (va_up Ib 55 (upd (Ib 55) 0 0)) pl nt y = msee I pl nt y := so_cong (fun t _ => mseen_same (hq0.2.1 57 (by decide) (by decide)) (hq0.2.1 58 (by decide) (by decide)) (hq0.2.1 62 (by decide) (by decide)) (hq0.2.1 65 (by decide) (by decide)) t)
  have msm : ∀ {Im : Nat → Nat → Int32}, (∀ c, 57 ≤ c → c ≤ 77 → Im c = I c) → msee Im pl nt y = msee I pl nt y := fun {Im} f => so_cong (fun t _ => mseen_same (f 57 (by decide) (by decide)) (f 58 (by decide) (by decide)) (f 62 (by decide) (by decide)) (f 65 (by decide) (by decide)) t)
  have mWm : ∀ {Im : Nat → Nat → Int32}, (∀ c, 57 ≤ c → c ≤ 77 → Im c = I c) → Im 56 2 = I 56 2 → Im 56 3 = I 56 3 → mW Im nr nt pl ∧ mY Im nr nt y := fun {Im} f f2 f3 => by
    have hw : mW Im nr nt pl := mW_cong hW.1.1 f2 f3 (fun t _ => by rw [f 57 (by decide) (by decide)])
    refine ⟨hw, ?_⟩
    have hy := hW.1.2.1
    unfold mY at hy ⊢
    rw [f 57 (by decide) (by decide), f 64 (by decide) (by decide), f 65 (by decide) (by decide)]
    exact hy
  have sw : ∀ Q, tEv E 136 35 [.ref 0, .int (knd 12)] [] (mS Ib J R) Q = tEv E 127 0 [.ref 0, tm_dum, tm_dum, tm_dum] [] (mS (va_up Ib 55 (upd (Ib 55) 0 0)) J R) (fun r S2 => tEv E 135 40 [.ref 0, .int (nI 3)] (tm_push r []) (S2.1, (0, 0)) (fun r S2 => tEv E 136 95 [.ref 0, .int (nI 3)] (tm_push r []) (S2.1, (0, 0)) Q)) := fun Q => by
    simp only [e_136_35, e_136_36, e_136_39, e_136_40, e_136_41, e_136_42, e_136_43, e_136_46, e_136_47, e_136_50, e_136_53, e_136_54, e_136_57, e_136_60, e_136_61, e_136_62, e_136_63, e_136_66, e_136_69, e_136_70, e_136_71, e_136_74, e_136_75, e_136_78, e_136_81, e_136_82, e_136_85, e_136_88, e_136_89, e_136_90, e_136_91, e_136_92, rf_0_0 hR, rf_0_1 hR, rf_0_2 hR, rf_0_3 hR, rf_0_4 hR, rf_0_5 hR, rf_0_6 hR, rf_1_0 hR, rf_3_0 hR, rf_3_2 hR, rf_4_3 hR, rf_4_4 hR, rf_4_5 hR, rf_4_6 hR, rf_4_7 hR, rf_4_8 hR, rf_4_9 hR, rf_12_1 hR, rf_13_3 hR, rf_13_4 hR, rf_13_5 hR, rf_13_6 hR, rf_13_7 hR, rf_13_8 hR, rf_13_9 hR, rf_21_0 hR, rf_21_1 hR, rf_24_0 hR, rf_25_0 hR, rf_26_0 hR, rf_26_1 hR, rf_26_2 hR, rf_26_3 hR, rf_26_4 hR, rf_26_5 hR, rf_26_6 hR, rf_26_7 hR, rf_27_0 hR, rf_27_1 hR, rf_30_0 hR, rf_30_1 hR, rf_33_0 hR, rf_33_1 hR, rf_36_0 hR, rf_36_1 hR, rf_39_0 hR, rf_39_1 hR, rf_42_0 hR, rf_42_1 hR, rf_45_0 hR, rf_45_1 hR, rf_48_0 hR, rf_48_1 hR, rf_51_0 hR, rf_51_1 hR, rf_51_6 hR, rf_51_7 hR, rf_h_3 hR, rf_d_3 hR, rf_h_4 hR, rf_d_4 hR, rf_h_5 hR, rf_d_5 hR, rf_h_6 hR, rf_d_6 hR, rf_h_7 hR, rf_d_7 hR, rf_h_8 hR, rf_d_8 hR, rf_h_9 hR, rf_d_9 hR, rf_12_0 hR, rf_3_1 hR, kn_0, kn_1, kn_2, kn_3, kn_4, kn_5, kn_6, kn_7, kn_8, kn_9, kn_10, kn_11, kn_12, kn_13, kn_14, kn_15, kn_16, kn_17, kn_18, kn_19, kn_20, kn_21, kn_22, kn_23, kn_24, kn_25, kn_26, kn_27, kn_28, kn_29, kn_30, kn_31, kn_32, kn_33, kn_34, kn_35, kn_36, kn_37, kn_38, kn_39, kn_40, kn_41, kn_42, kn_43, kn_44, kn_45, kn_46, kn_47, kn_48, kn_49, kn_50, kn_51, kn_52, kn_53, kn_54, kn_55, ln_2, ln_5, ln_6, ln_7, ln_8, ln_9, ln_10, ln_11, ln_14, ln_15, ln_16, ln_17, ln_18, ln_19, ln_20, ln_22, ln_23, ln_26, ln_28, ln_29, ln_31, ln_32, ln_34, ln_35, ln_37, ln_38, ln_40, ln_41, ln_43, ln_44, ln_46, ln_47, ln_49, ln_50, ln_52, kn_h hR, lt_h hR, kn_h1 hR, ln_h1 hR, lt_h1 hR, kn_h2 hR, ln_h2 hR, lt_h2 hR, kn_h3 hR, ln_h3 hR, lt_h3 hR, kn_h4 hR, ln_h4 hR, lt_h4 hR, kn_h5 hR, ln_h5 hR, lt_h5 hR, kn_h6 hR, ln_h6 hR, lt_h6 hR, kn_h7 hR, ln_h7 hR, lt_h7 hR, kn_d hR, lt_d hR, kn_d1 hR, ln_d1 hR, lt_d1 hR, kn_d2 hR, ln_d2 hR, lt_d2 hR, kn_d3 hR, ln_d3 hR, lt_d3 hR, kn_d4 hR, ln_d4 hR, lt_d4 hR, kn_d5 hR, ln_d5 hR, lt_d5 hR, kn_d6 hR, ln_d6 hR, lt_d6 hR, kn_d7 hR, ln_d7 hR, lt_d7 hR, va_rf_some, push_s, push_n, nb0, nb1, nbb, Nat.reduceLT, show knd 12 = nI 3 from rfl, show (nI 3 = 0) = False from eq_false (by decide), show (nI 3 = 2) = False from eq_false (by decide), show (nI 3 = 1) = False from eq_false (by decide), if_false, c_dend hR, e_135_0, e_135_36, e_135_37, e_135_1_3]
  by_cases c0 : anyb (tkb I pl nt (bt (msee I pl nt y))) nt = true
  · have c1 : anyb (tkb (va_up Ib 55 (upd (Ib 55) 0 0)) pl nt (bt (msee (va_up Ib 55 (upd (Ib 55) 0 0)) pl nt y))) nt = true := by
      rw [es, anyb_cong (fun q _ => tkb_cong e61 e62 pl nt (bt (msee I pl nt y)) q)]
      exact c0
    obtain ⟨I1, P', I3, k1, p1, t1, hq⟩ := c_takeAll_1 (E := E) (J := J) hR hW0 hG0.2.1 hG0.1 hG0.2.2.1.1 hG0.2.2.1.2.1 c1
    refine br_done hR hh hW hG hD b1 b2 k1 (B := va_up I1 22 P') (fun c g1 g2 => by rw [vu, if_neg g2]) t1 (fun Q => ?_) (fun Im _ f f56 => ?_)
    · rw [sw Q, hq]
      simp only [e_135_40, e_136_95, va_rf_some, push_s, push_n, nb0, nb1, nbb, Nat.reduceLT]
    · obtain ⟨mw, my⟩ := mWm f f56.2.1 f56.2.2
      have f' : ∀ c, 57 ≤ c → c ≤ 77 → va_up Im 56 (upd (Im 56) 35 0) c = I c := fun c c1 c2 => by rw [vu, if_neg (by omega)]; exact f c c1 c2
      obtain ⟨mw', my'⟩ := mWm (Im := va_up Im 56 (upd (Im 56) 35 0)) f' f56.2.1 f56.2.2
      have em : msee (va_up Im 56 (upd (Im 56) 35 0)) pl nt y = msee I pl nt y := msm f'
      have hm := fun {Q} => m_takesAll_1 (E := E) (Q := Q) (J := J) hR mw' my' hG.1 (show va_up Im 56 (upd (Im 56) 35 0) 56 1 = nI u from f56.1.trans hG.2.2.1.2.2) (by
        rw [em, anyb_cong (fun q _ => tkb_cong (f' 61 (by decide) (by decide)) (f' 62 (by decide) (by decide)) pl nt (bt (msee I pl nt y)) q)]
        exact c0)
      rw [em, tka_cong (f' 61 (by decide) (by decide)) (f' 62 (by decide) (by decide))] at hm
      have hpl := tka_W (f := mmind (I 57) u) (u := u) hW.1.1 (s := bt (msee I pl nt y)) nt (Nat.le_refl nt)
      refine ⟨_, y, tka I pl nt (bt (msee I pl nt y)) nt, ?_, ?_, fun Q => m_say_12 hR (fun Q => hm)⟩
      · intro q q1 q2
        unfold pF
        rw [if_neg (by omega), f' 57 (by decide) (by decide)]
      · refine act_places hh hW0 ⟨⟨rfl, rfl⟩, fun c c1 c2 => by rw [vu, if_neg (by omega), vu, if_neg (by omega), vu, if_neg (by omega)], fun c c1 c2 => by rw [vu, if_neg (by omega), vu, if_neg (by omega), vu, if_neg (by omega)]⟩ (fun t ht => (hpl.2.2.2.2.1 t ht).2) hpl.2.2.2.2.2 (fun t ht => ?_) (fun k k1' k2 => ?_) (fun t ht => rfl) (fun q hq' => ?_)
        · show P' t = _
          rw [p1 t ht, es, tka_cong e61 e62]
        · show I1 21 k = _
          rw [k1.1 21 (by decide) (by omega) (by omega) (by omega)]
        · show pF _ _ _ q = _
          unfold pF
          by_cases c2 : q < nt
          · rw [if_pos c2, if_pos c2]
          · rw [if_neg c2, if_neg c2, f' 57 (by decide) (by decide), mmind_lo _ hq', hq0.2.1 57 (by decide) (by decide)]
  · have c0' : anyb (tkb I pl nt (bt (msee I pl nt y))) nt = false := by simpa using c0
    have c1 : anyb (tkb (va_up Ib 55 (upd (Ib 55) 0 0)) pl nt (bt (msee (va_up Ib 55 (upd (Ib 55) 0 0)) pl nt y))) nt = false := by
      rw [es, anyb_cong (fun q _ => tkb_cong e61 e62 pl nt (bt (msee I pl nt y)) q)]
      exact c0'
    refine br_none hR hh hW hG hD b1 b2 (v := 17) (fun Q => ?_) (fun Im q1 Q => ?_)
    · rw [sw Q, c_takeAll_0 hR hW0 hG0.2.1 hG0.1 hG0.2.2.1.1 hG0.2.2.1.2.1 c1]
      simp only [e_135_40, e_136_95, va_rf_some, push_s, push_n, nb0, nb1, nbb, Nat.reduceLT]
    · have f' : ∀ c, 57 ≤ c → c ≤ 77 → va_up Im 56 (upd (Im 56) 35 0) c = I c := fun c c1 c2 => by rw [vu, if_neg (by omega)]; exact q1.2.1 c c1 c2
      obtain ⟨mw', my'⟩ := mWm (Im := va_up Im 56 (upd (Im 56) 35 0)) f' q1.2.2.2.1 q1.2.2.2.2.1
      have em : msee (va_up Im 56 (upd (Im 56) 35 0)) pl nt y = msee I pl nt y := msm f'
      exact m_say_12 hR (fun Q => m_takesAll_0 hR mw' my' hG.1 (show va_up Im 56 (upd (Im 56) 35 0) 56 1 = nI u from q1.2.2.1.trans hG.2.2.1.2.2) (by
        rw [em, anyb_cong (fun q _ => tkb_cong (f' 61 (by decide) (by decide)) (f' 62 (by decide) (by decide)) pl nt (bt (msee I pl nt y)) q)]
        exact c0'))
end H4
