/-! ===== class and model: what is looked at, undone, written ===== -/
def INV (I : Nat → Nat → Int32) (h nr nt : Nat) : Prop := INVw I h nr nt ∧ ∃ n tc, TX I n tc ∧ TXc I n tc
def GOOD (I : Nat → Nat → Int32) (J : Nat → Nat → Int64) (R : Nat → Nat → Option Nat) : Prop := ∃ h d nr nt, tRef h d R ∧ INV I h nr nt ∧ JW J
def STEP (E : tm_Env) (kc : Nat) (lc : List Value) (km : Nat) (lm : List Value) (I : Nat → Nat → Int32) (J : Nat → Nat → Int64) (R : Nat → Nat → Option Nat) : Prop := ∃ v I1 R1 I', (∀ Q, tEv E kc 0 lc [] (mS I J R) Q = Q (some v) (mS I1 J R1)) ∧ (∀ Q, tEv E km 0 lm [] (mS I1 J R1) Q = Q (some v) (mS I' J R1)) ∧ GOOD I' J R1
section I1
variable {E : tm_Env} {I : Nat → Nat → Int32} {J : Nat → Nat → Int64} {R : Nat → Nat → Option Nat}
theorem hh_of {h d : Nat} (hR : tRef h d R) : h = 4 ∨ h = 13 := by rcases hR.2.2.1 with q | q <;> omega
theorem st_say (g : GOOD I J R) : STEP E 136 [.ref 0, tm_dum] 188 [.ref 56, tm_dum] I J R := by
  obtain ⟨h, d, nr, nt, hR, ⟨hI, n, tc, hT⟩, hJ⟩ := g
  obtain ⟨v, I1, I', h1, h2, h3, h4⟩ := say_ok (E := E) hR hI hT hJ
  exact ⟨v, I1, R, I', h1, h2, h, d, nr, nt, hR, ⟨h3, n, tc, txs_TX h4 hT⟩, hJ⟩
/-- nothing changes -/
theorem st_same (g : GOOD I J R) {kc km : Nat} {lc lm : List Value} {v : Int32} (h1 : ∀ Q, tEv E kc 0 lc [] (mS I J R) Q = Q (some v) (mS I J R)) (h2 : ∀ Q, tEv E km 0 lm [] (mS I J R) Q = Q (some v) (mS I J R)) : STEP E kc lc km lm I J R := ⟨v, I, R, I, h1, h2, g⟩
theorem isB_not {x : Int32} {n : Nat} (h : ¬ isB x n = true) : isB x n = false := by simpa using h
theorem st_would (g : GOOD I J R) {a x z : Int32} : STEP E 194 [.ref 0, .int a, .int x, .int z] 196 [.ref 56, .int a, .int x, .int z] I J R := by
  have g0 := g
  obtain ⟨h, d, nr, nt, hR, ⟨⟨y, pl, u, nx, aa, k, hW, hG, hD⟩, n, tc, hT⟩, hJ⟩ := g
  have hC := hW.1
  have h16 := RR_16 hC
  have bad : (isB a 12 = false ∨ isB x nt = false ∨ (∃ a', a = nI a' ∧ a' < 12 ∧ of2 a' = true ∧ isB z nt = false)) → STEP E 194 [.ref 0, .int a, .int x, .int z] 196 [.ref 56, .int a, .int x, .int z] I J R := fun hb => st_same g0 (v := -1) (fun Q => c_would hR (fun Q => c_reason_0 hR hC hb)) (fun Q => m_would_0 hR hC.1 hb)
  by_cases c1 : isB a 12 = true
  · by_cases c2 : isB x nt = true
    · obtain ⟨a', a1, rfl⟩ := isB_ex (by decide) c1
      obtain ⟨x', x1, rfl⟩ := isB_ex (by omega) c2
      by_cases c3 : of2 a' = true ∧ isB z nt = false
      · exact bad (Or.inr (Or.inr ⟨a', rfl, a1, c3.1, c3.2⟩))
      · obtain ⟨z', hz⟩ : ∃ z', of2 a' = true → z = nI z' ∧ z' < nt := by
          cases o2 : of2 a' with
          | false => exact ⟨0, fun e => by cases e⟩
          | true =>
            have c4 : isB z nt = true := by
              cases q : isB z nt with
              | true => rfl
              | false => exact absurd ⟨o2, q⟩ c3
            obtain ⟨z', z1, z2⟩ := isB_ex (by omega) c4
            exact ⟨z', fun _ => ⟨z2, z1⟩⟩
        exact st_same g0 (fun Q => c_would hR (fun Q => c_reason_1 hR hC hW.2.1 a1 x1 hz)) (fun Q => m_would_1 hR hC.1 a1 x1 hz)
    · exact bad (Or.inr (Or.inl (isB_not c2)))
  · exact bad (Or.inl (isB_not c1))
theorem st_thing (g : GOOD I J R) {x z : Int32} : STEP E 198 [.ref 0, .int x, .int z, tm_dum, tm_dum] 200 [.ref 56, .int x, .int z] I J R := by
  have g0 := g
  obtain ⟨h, d, nr, nt, hR, ⟨⟨y, pl, u, nx, aa, k, hW, hG, hD⟩, n, tc, hT⟩, hJ⟩ := g
  have hC := hW.1
  have h16 := RR_16 hC
  by_cases c1 : isB x nt = true
  · by_cases c2 : isB z 14 = true
    · obtain ⟨x', x1, rfl⟩ := isB_ex (by omega) c1
      obtain ⟨z', z1, rfl⟩ := isB_ex (by decide) c2
      exact st_same g0 (fun Q => c_thing_1 hR hC x1 z1) (fun Q => m_thing_1 hR hC.1 hC.2.1 x1 z1)
    · exact st_same g0 (fun Q => c_thing_0 hR hC (Or.inr (isB_not c2))) (fun Q => m_thing_0 hR hC.1 (Or.inr (isB_not c2)))
  · exact st_same g0 (fun Q => c_thing_0 hR hC (Or.inl (isB_not c1))) (fun Q => m_thing_0 hR hC.1 (Or.inl (isB_not c1)))
theorem st_room (g : GOOD I J R) {x z : Int32} : STEP E 202 [.ref 0, .int x, .int z] 205 [.ref 56, .int x, .int z] I J R := by
  have g0 := g
  obtain ⟨h, d, nr, nt, hR, ⟨⟨y, pl, u, nx, aa, k, hW, hG, hD⟩, n, tc, hT⟩, hJ⟩ := g
  have hC := hW.1
  have h6 := hC.1.2.2.1
  by_cases c1 : isB x nr = true
  · by_cases c2 : isB z 4 = true
    · obtain ⟨x', x1, rfl⟩ := isB_ex (by omega) c1
      obtain ⟨z', z1, rfl⟩ := isB_ex (by decide) c2
      exact st_same g0 (fun Q => c_room_1 hR hC (hW.2.2.1 x' x1) x1 z1) (fun Q => m_room_1 hR hC.1 hC.2.1 x1 z1)
    · exact st_same g0 (fun Q => c_room_0 hR hC (Or.inr (isB_not c2))) (fun Q => m_room_0 hR hC.1 (Or.inr (isB_not c2)))
  · exact st_same g0 (fun Q => c_room_0 hR hC (Or.inl (isB_not c1))) (fun Q => m_room_0 hR hC.1 (Or.inl (isB_not c1)))
theorem st_way (g : GOOD I J R) {x z : Int32} : STEP E 132 [.ref 0, .int x, .int z] 206 [.ref 56, .int x, .int z] I J R := by
  have g0 := g
  obtain ⟨h, d, nr, nt, hR, ⟨⟨y, pl, u, nx, aa, k, hW, hG, hD⟩, n, tc, hT⟩, hJ⟩ := g
  have hC := hW.1
  have h6 := hC.1.2.2.1
  by_cases c1 : isB x nr = true
  · by_cases c2 : isB z 4 = true
    · obtain ⟨x', x1, rfl⟩ := isB_ex (by omega) c1
      obtain ⟨z', z1, rfl⟩ := isB_ex (by decide) c2
      exact st_same g0 (fun Q => c_way_1 hR hC x1 z1) (fun Q => m_way_1 hR hC.1 x1 z1)
    · exact st_same g0 (fun Q => c_way_0 hR hC (Or.inr (isB_not c2))) (fun Q => m_way_0 hR hC.1 (Or.inr (isB_not c2)))
  · exact st_same g0 (fun Q => c_way_0 hR hC (Or.inl (isB_not c1))) (fun Q => m_way_0 hR hC.1 (Or.inl (isB_not c1)))
theorem st_door (g : GOOD I J R) {x z : Int32} : STEP E 207 [.ref 0, .int x, .int z, tm_dum] 208 [.ref 56, .int x, .int z] I J R := by
  have g0 := g
  obtain ⟨h, d, nr, nt, hR, ⟨⟨y, pl, u, nx, aa, k, hW, hG, hD⟩, n, tc, hT⟩, hJ⟩ := g
  have hC := hW.1
  have h6 := hC.1.2.2.1
  by_cases c1 : isB x nr = true
  · by_cases c2 : isB z 4 = true
    · obtain ⟨x', x1, rfl⟩ := isB_ex (by omega) c1
      obtain ⟨z', z1, rfl⟩ := isB_ex (by decide) c2
      exact st_same g0 (fun Q => c_door_1 hR hC x1 z1) (fun Q => m_door_1 hR hC.1 x1 z1)
    · exact st_same g0 (fun Q => c_door_0 hR hC (Or.inr (isB_not c2))) (fun Q => m_door_0 hR hC.1 (Or.inr (isB_not c2)))
  · exact st_same g0 (fun Q => c_door_0 hR hC (Or.inl (isB_not c1))) (fun Q => m_door_0 hR hC.1 (Or.inl (isB_not c1)))
theorem good_83 (g : GOOD I J R) (F : Nat → Int32) : GOOD (va_up I 83 F) J R := by
  obtain ⟨h, d, nr, nt, hR, ⟨⟨y, pl, u, nx, aa, k, hW, hG, hD⟩, n, tc, hT⟩, hJ⟩ := g
  have hq : frQ I (va_up I 83 F) := ⟨fun c hc => by rw [vu, if_neg (by omega)], fun c c1 c2 => by rw [vu, if_neg (by omega)], rfl, rfl, rfl, rfl⟩
  exact ⟨h, d, nr, nt, hR, ⟨⟨y, pl, u, nx, aa, k, frQ_W (hh_of hR) hq hW, frQ_G (hh_of hR) hq hG, DB_same rfl rfl rfl rfl hD⟩, n, tc, txs_TX (frQ_txs hq) hT⟩, hJ⟩
theorem st_steps (g : GOOD I J R) {x z w : Int32} : STEP E 210 [.ref 0, .int x, .int z, .int w, tm_dum, tm_dum] 211 [.ref 56, .int x, .int z, .int w, tm_dum, tm_dum, tm_dum] I J R := by
  have g0 := g
  obtain ⟨h, d, nr, nt, hR, ⟨⟨y, pl, u, nx, aa, k, hW, hG, hD⟩, n, tc, hT⟩, hJ⟩ := g
  have hC := hW.1
  have h6 := hC.1.2.2.1
  by_cases c1 : isB x nr = true
  · by_cases c2 : isB z nr = true
    · by_cases c3 : isB w 2 = true
      · obtain ⟨x', x1, rfl⟩ := isB_ex (by omega) c1
        obtain ⟨z', z1, rfl⟩ := isB_ex (by omega) c2
        obtain ⟨w', w1, rfl⟩ := isB_ex (by decide) c3
        have ew : nI w' = b2i (decide (w' = 1)) := by
          rcases (by omega : w' = 0 ∨ w' = 1) with q | q <;> subst q <;> rfl
        rw [ew]
        exact ⟨_, I, R, _, fun Q => c_steps_1 hR hC x1 z1, fun Q => m_steps_1 hR hC.1 hC.2.1 x1 z1, good_83 g0 _⟩
      · exact st_same g0 (fun Q => c_steps_0 hR hC (Or.inr (Or.inr (isB_not c3)))) (fun Q => m_steps_0 hR hC.1 (Or.inr (Or.inr (isB_not c3))))
    · exact st_same g0 (fun Q => c_steps_0 hR hC (Or.inr (Or.inl (isB_not c2)))) (fun Q => m_steps_0 hR hC.1 (Or.inr (Or.inl (isB_not c2))))
  · exact st_same g0 (fun Q => c_steps_0 hR hC (Or.inl (isB_not c1))) (fun Q => m_steps_0 hR hC.1 (Or.inl (isB_not c1)))
theorem st_count (g : GOOD I J R) {x : Int32} : STEP E 212 [.ref 0, .int x] 213 [.ref 56, .int x] I J R := by
  have g0 := g
  obtain ⟨h, d, nr, nt, hR, ⟨⟨y, pl, u, nx, aa, k, hW, hG, hD⟩, n, tc, hT⟩, hJ⟩ := g
  have hC := hW.1
  by_cases c1 : isB x 12 = true
  · obtain ⟨x', x1, rfl⟩ := isB_ex (by decide) c1
    exact st_same g0 (fun Q => c_count_1 hR hC hG.2.2.1.2.1 hT.2.1 hD.1.1 hD.2.1.1 (fun h0 => (hD.2.2 h0).1.2.1) x1) (fun Q => m_count_1 hR hC.1 hC.2.1 hG.2.2.1.2.2 hT.1.1 hD.2.1.2.2 hD.1.2 hD.1.1 hD.2.1.2.1 x1)
  · exact st_same g0 (fun Q => c_count_0 hR (isB_not c1)) (fun Q => m_count_0 hR (isB_not c1))
theorem st_doubt (g : GOOD I J R) : STEP E 192 [.ref 0] 193 [.ref 56] I J R := by
  have g0 := g
  obtain ⟨h, d, nr, nt, hR, ⟨⟨y, pl, u, nx, aa, k, hW, hG, hD⟩, n, tc, hT⟩, hJ⟩ := g
  have e : (if I 55 0 = 0 then -4 else if I 55 0 = 1 then I 55 3 else I 55 4) = (if k = 0 then -4 else I 82 (k - 1)) := by
    rw [hD.2.1.1]
    rcases (by have := hD.1.1; omega : k = 0 ∨ k = 1 ∨ k = 2) with q | q | q
    · subst q; rfl
    · subst q
      rw [if_neg (show ¬ nI 1 = 0 by decide), if_pos (show nI 1 = 1 by decide), if_neg (show ¬ 1 = 0 by decide)]
      exact (hD.2.2 (by decide)).1.2.2.1
    · subst q
      rw [if_neg (show ¬ nI 2 = 0 by decide), if_neg (show ¬ nI 2 = 1 by decide), if_neg (show ¬ 2 = 0 by decide)]
      have dd := hD.2.2 (by decide)
      exact dd.1.2.2.2.1 (dd.2.2.2 rfl)
  refine st_same g0 (v := if k = 0 then -4 else I 82 (k - 1)) (fun Q => ?_) (fun Q => m_doubt hR hD.1.1 hD.2.1.2.1)
  rw [c_doubt hR, e]
theorem st_undo (g : GOOD I J R) : STEP E 190 [.ref 0] 191 [.ref 56] I J R := by
  have g0 := g
  obtain ⟨h, d, nr, nt, hR, ⟨⟨y, pl, u, nx, aa, k, hW, hG, hD⟩, n, tc, hT⟩, hJ⟩ := g
  have hh := hh_of hR
  rcases Nat.eq_zero_or_pos u with q | q
  · subst q
    exact st_same g0 (fun Q => c_undo_0 hR hG.2.2.1.2.1) (fun Q => m_undo_0 hR hG.2.2.1.2.2)
  · obtain ⟨u', rfl⟩ : ∃ u', u = u' + 1 := ⟨u - 1, by omega⟩
    have hu8 := hG.1
    have hx8 := hG.2.1
    obtain ⟨I1, t1, hq⟩ := c_undo_1 (E := E) (J := J) hR hx8 (show u' < 8 by omega) hG.2.2.1.1 hG.2.2.1.2.1
    have e56 : I1 56 = I 56 := t1.1 56 (by decide) (by decide) (by decide) (by decide)
    have e57 : I1 57 = I 57 := t1.1 57 (by decide) (by decide) (by decide) (by decide)
    have hm := fun {Q} => m_undo_1 (E := E) (Q := Q) (I := va_up I1 55 (upd (I1 55) 0 0)) (J := J) hR (show u' < 8 by omega) (show va_up I1 55 (upd (I1 55) 0 0) 56 1 = nI (u' + 1) from (show va_up I1 55 (upd (I1 55) 0 0) 56 1 = I1 56 1 from rfl).trans (by rw [e56]; exact hG.2.2.1.2.2))
    have lo : ∀ c, c ≠ 55 → c ≠ 56 → c ≠ 57 → (va_up (va_up (va_up I1 55 (upd (I1 55) 0 0)) 57 (cpy (va_up I1 55 (upd (I1 55) 0 0) 57) (52 * (u' + 1)) 0 52)) 56 (upd (upd (va_up I1 55 (upd (I1 55) 0 0) 56) 1 (nI u')) 35 0)) c = I1 c := fun c g1 g2 g3 => by rw [vu, if_neg g2, vu, if_neg g3, vu, if_neg g1]
    have ns : ∀ c, c ≠ 25 → c ≠ 21 → c ≠ 22 → c ≠ 23 → I1 c = I c := t1.1
    obtain ⟨r1, y', pl', r2⟩ := RNG_undo (I' := va_up (va_up (va_up I1 55 (upd (I1 55) 0 0)) 57 (cpy (va_up I1 55 (upd (I1 55) 0 0) 57) (52 * (u' + 1)) 0 52)) 56 (upd (upd (va_up I1 55 (upd (I1 55) 0 0) 56) 1 (nI u')) 35 0)) hh hG t1
      ⟨⟨(show _ = I1 56 2 from rfl).trans (by rw [e56]), (show _ = I1 56 3 from rfl).trans (by rw [e56])⟩, fun c c1 c2 => by rw [lo c (by omega) (by omega) (by omega), ns c (by omega) (by omega) (by omega) (by omega)], fun c c1 c2 => by rw [lo c (by omega) (by omega) (by omega), ns c (by omega) (by omega) (by omega) (by omega)]⟩
      (fun c c1 c2 => lo c (by omega) (by omega) (by omega)) rfl (fun q hq => by
        show cpy (I1 57) (52 * (u' + 1)) 0 52 q = _
        rw [e57]
        unfold cpy
        by_cases c : q < 52
        · rw [if_pos (by omega), if_pos c]
          congr 1
          omega
        · rw [if_neg (by omega), if_neg c])
    refine ⟨nI u', _, R, _, hq, fun Q => hm, h, d, nr, nt, hR, ⟨⟨y', pl', _, _, aa, 0, r2, r1, DB_0 hD.1.2 rfl rfl ?_⟩, n, tc, txs_TX ⟨fun c hc => ?_, ?_, ?_⟩ hT⟩, hJ⟩
    · show I1 56 36 = _
      rw [e56]
      exact hD.2.1.2.2
    · rw [lo c (by omega) (by omega) (by omega), ns c (by omega) (by omega) (by omega) (by omega)]
    · rw [lo 66 (by decide) (by decide) (by decide), ns 66 (by decide) (by decide) (by decide) (by decide)]
    · show I1 56 13 = _
      rw [e56]
theorem c_wipe {h d : Nat} (hR : tRef h d R) {Q : Option Int32 → tm_St → Prop} : tEv E 66 0 [.ref 0] [] (mS I J R) Q = Q (some (I 1 1)) (mS (va_up I 1 (upd (I 1) 1 0)) J R) := by
  simp only [e_66_0, e_66_1, e_66_4, e_66_7, e_45_0, e_45_1, e_45_4, e_45_5, e_45_6, e_45_7, e_45_10, e_45_11, rf_0_0 hR, rf_0_1 hR, rf_0_2 hR, rf_0_3 hR, rf_0_4 hR, rf_0_5 hR, rf_0_6 hR, rf_1_0 hR, rf_3_0 hR, rf_3_2 hR, rf_4_3 hR, rf_4_4 hR, rf_4_5 hR, rf_4_6 hR, rf_4_7 hR, rf_4_8 hR, rf_4_9 hR, rf_12_1 hR, rf_13_3 hR, rf_13_4 hR, rf_13_5 hR, rf_13_6 hR, rf_13_7 hR, rf_13_8 hR, rf_13_9 hR, rf_21_0 hR, rf_21_1 hR, rf_24_0 hR, rf_25_0 hR, rf_26_0 hR, rf_26_1 hR, rf_26_2 hR, rf_26_3 hR, rf_26_4 hR, rf_26_5 hR, rf_26_6 hR, rf_26_7 hR, rf_27_0 hR, rf_27_1 hR, rf_30_0 hR, rf_30_1 hR, rf_33_0 hR, rf_33_1 hR, rf_36_0 hR, rf_36_1 hR, rf_39_0 hR, rf_39_1 hR, rf_42_0 hR, rf_42_1 hR, rf_45_0 hR, rf_45_1 hR, rf_48_0 hR, rf_48_1 hR, rf_51_0 hR, rf_51_1 hR, rf_51_6 hR, rf_51_7 hR, rf_h_3 hR, rf_d_3 hR, rf_h_4 hR, rf_d_4 hR, rf_h_5 hR, rf_d_5 hR, rf_h_6 hR, rf_d_6 hR, rf_h_7 hR, rf_d_7 hR, rf_h_8 hR, rf_d_8 hR, rf_h_9 hR, rf_d_9 hR, rf_12_0 hR, rf_3_1 hR, kn_0, kn_1, kn_2, kn_3, kn_4, kn_5, kn_6, kn_7, kn_8, kn_9, kn_10, kn_11, kn_12, kn_13, kn_14, kn_15, kn_16, kn_17, kn_18, kn_19, kn_20, kn_21, kn_22, kn_23, kn_24, kn_25, kn_26, kn_27, kn_28, kn_29, kn_30, kn_31, kn_32, kn_33, kn_34, kn_35, kn_36, kn_37, kn_38, kn_39, kn_40, kn_41, kn_42, kn_43, kn_44, kn_45, kn_46, kn_47, kn_48, kn_49, kn_50, kn_51, kn_52, kn_53, kn_54, kn_55, ln_2, ln_5, ln_6, ln_7, ln_8, ln_9, ln_10, ln_11, ln_14, ln_15, ln_16, ln_17, ln_18, ln_19, ln_20, ln_22, ln_23, ln_26, ln_28, ln_29, ln_31, ln_32, ln_34, ln_35, ln_37, ln_38, ln_40, ln_41, ln_43, ln_44, ln_46, ln_47, ln_49, ln_50, ln_52, kn_h hR, lt_h hR, kn_h1 hR, ln_h1 hR, lt_h1 hR, kn_h2 hR, ln_h2 hR, lt_h2 hR, kn_h3 hR, ln_h3 hR, lt_h3 hR, kn_h4 hR, ln_h4 hR, lt_h4 hR, kn_h5 hR, ln_h5 hR, lt_h5 hR, kn_h6 hR, ln_h6 hR, lt_h6 hR, kn_h7 hR, ln_h7 hR, lt_h7 hR, kn_d hR, lt_d hR, kn_d1 hR, ln_d1 hR, lt_d1 hR, kn_d2 hR, ln_d2 hR, lt_d2 hR, kn_d3 hR, ln_d3 hR, lt_d3 hR, kn_d4 hR, ln_d4 hR, lt_d4 hR, kn_d5 hR, ln_d5 hR, lt_d5 hR, kn_d6 hR, ln_d6 hR, lt_d6 hR, kn_d7 hR, ln_d7 hR, lt_d7 hR, va_rf_some, push_s, push_n, nb0, nb1, nbb, Nat.reduceLT]
theorem st_wipe (g : GOOD I J R) : STEP E 66 [.ref 0] 63 [.ref 56, tm_dum] I J R := by
  obtain ⟨h, d, nr, nt, hR, ⟨⟨y, pl, u, nx, aa, k, hW, hG, hD⟩, n, tc, hT⟩, hJ⟩ := g
  have hh := hh_of hR
  have lo : ∀ c, c ≠ 1 → c ≠ 56 → va_up (va_up I 1 (upd (I 1) 1 0)) 56 (upd (I 56) 13 0) c = I c := fun c g1 g2 => by rw [vu, if_neg g2, vu, if_neg g1]
  have hag : agr I (va_up (va_up I 1 (upd (I 1) 1 0)) 56 (upd (I 56) 13 0)) := ⟨⟨rfl, rfl⟩, fun c c1 c2 => lo c (by omega) (by omega), fun c c1 c2 => lo c (by omega) (by omega), fun _ _ => rfl, fun _ _ _ => rfl, fun _ _ => ⟨rfl, rfl⟩⟩
  refine ⟨I 1 1, va_up I 1 (upd (I 1) 1 0), R, va_up (va_up I 1 (upd (I 1) 1 0)) 56 (upd (I 56) 13 0), fun Q => c_wipe hR, fun Q => ?_, h, d, nr, nt, hR, ⟨⟨y, pl, u, nx, aa, k, RW_agr hh hag hW, RNG_same hh ⟨hag.1, hag.2.1, hag.2.2.1⟩ ⟨rfl, rfl⟩ rfl (fun c c1 c2 => lo c (by omega) (by omega)) (fun _ _ _ => rfl) hG, DB_same rfl rfl rfl rfl hD⟩, 0, tc, ⟨rfl, by decide, fun p hp => absurd hp (Nat.not_lt_zero p)⟩, rfl, by decide, fun p hp => absurd hp (Nat.not_lt_zero p)⟩, hJ⟩
  have hm := m_wipe (E := E) (Q := Q) (I := va_up I 1 (upd (I 1) 1 0)) (J := J) hR
  rw [hm]
  show Q (some (I 56 13)) _ = _
  rw [hT.1.1, hT.2.1]
  rfl
theorem i2c_id : ∀ i, i < 127 → ((nI i).toUInt32 % 65536).toInt32 = nI i := by decide
theorem nar12 : ∀ i, i < 127 → vp_nar .char (nI i) = nI i := by decide
theorem c_write_0 {h d : Nat} (hR : tRef h d R) {Q : Option Int32 → tm_St → Prop} {x : Int32} (hx : decide ((32 : Int32) ≤ x ∧ x ≤ 126) = false) : tEv E 65 0 [.ref 0, .int x] [] (mS I J R) Q = Q (some (-1)) (mS I J R) := by
  have h1 := of_decide_eq_false hx
  simp only [e_65_0, e_65_1, e_65_3, e_65_6, e_65_7, e_65_9, e_65_12, e_65_13, rf_0_0 hR, rf_0_1 hR, rf_0_2 hR, rf_0_3 hR, rf_0_4 hR, rf_0_5 hR, rf_0_6 hR, rf_1_0 hR, rf_3_0 hR, rf_3_2 hR, rf_4_3 hR, rf_4_4 hR, rf_4_5 hR, rf_4_6 hR, rf_4_7 hR, rf_4_8 hR, rf_4_9 hR, rf_12_1 hR, rf_13_3 hR, rf_13_4 hR, rf_13_5 hR, rf_13_6 hR, rf_13_7 hR, rf_13_8 hR, rf_13_9 hR, rf_21_0 hR, rf_21_1 hR, rf_24_0 hR, rf_25_0 hR, rf_26_0 hR, rf_26_1 hR, rf_26_2 hR, rf_26_3 hR, rf_26_4 hR, rf_26_5 hR, rf_26_6 hR, rf_26_7 hR, rf_27_0 hR, rf_27_1 hR, rf_30_0 hR, rf_30_1 hR, rf_33_0 hR, rf_33_1 hR, rf_36_0 hR, rf_36_1 hR, rf_39_0 hR, rf_39_1 hR, rf_42_0 hR, rf_42_1 hR, rf_45_0 hR, rf_45_1 hR, rf_48_0 hR, rf_48_1 hR, rf_51_0 hR, rf_51_1 hR, rf_51_6 hR, rf_51_7 hR, rf_h_3 hR, rf_d_3 hR, rf_h_4 hR, rf_d_4 hR, rf_h_5 hR, rf_d_5 hR, rf_h_6 hR, rf_d_6 hR, rf_h_7 hR, rf_d_7 hR, rf_h_8 hR, rf_d_8 hR, rf_h_9 hR, rf_d_9 hR, rf_12_0 hR, rf_3_1 hR, kn_0, kn_1, kn_2, kn_3, kn_4, kn_5, kn_6, kn_7, kn_8, kn_9, kn_10, kn_11, kn_12, kn_13, kn_14, kn_15, kn_16, kn_17, kn_18, kn_19, kn_20, kn_21, kn_22, kn_23, kn_24, kn_25, kn_26, kn_27, kn_28, kn_29, kn_30, kn_31, kn_32, kn_33, kn_34, kn_35, kn_36, kn_37, kn_38, kn_39, kn_40, kn_41, kn_42, kn_43, kn_44, kn_45, kn_46, kn_47, kn_48, kn_49, kn_50, kn_51, kn_52, kn_53, kn_54, kn_55, ln_2, ln_5, ln_6, ln_7, ln_8, ln_9, ln_10, ln_11, ln_14, ln_15, ln_16, ln_17, ln_18, ln_19, ln_20, ln_22, ln_23, ln_26, ln_28, ln_29, ln_31, ln_32, ln_34, ln_35, ln_37, ln_38, ln_40, ln_41, ln_43, ln_44, ln_46, ln_47, ln_49, ln_50, ln_52, kn_h hR, lt_h hR, kn_h1 hR, ln_h1 hR, lt_h1 hR, kn_h2 hR, ln_h2 hR, lt_h2 hR, kn_h3 hR, ln_h3 hR, lt_h3 hR, kn_h4 hR, ln_h4 hR, lt_h4 hR, kn_h5 hR, ln_h5 hR, lt_h5 hR, kn_h6 hR, ln_h6 hR, lt_h6 hR, kn_h7 hR, ln_h7 hR, lt_h7 hR, kn_d hR, lt_d hR, kn_d1 hR, ln_d1 hR, lt_d1 hR, kn_d2 hR, ln_d2 hR, lt_d2 hR, kn_d3 hR, ln_d3 hR, lt_d3 hR, kn_d4 hR, ln_d4 hR, lt_d4 hR, kn_d5 hR, ln_d5 hR, lt_d5 hR, kn_d6 hR, ln_d6 hR, lt_d6 hR, kn_d7 hR, ln_d7 hR, lt_d7 hR, va_rf_some, push_s, push_n, nb0, nb1, nbb, Nat.reduceLT]
  by_cases c1 : x < 32
  · rw [if_pos c1]
  · rw [if_neg c1, if_pos]
    rcases Int32.lt_or_le 126 x with q | q
    · exact q
    · exact absurd ⟨Int32.not_lt.mp c1, q⟩ h1
theorem c_write_1 {h d : Nat} (hR : tRef h d R) {Q : Option Int32 → tm_St → Prop} {i : Nat} (h1 : 32 ≤ i) (h2 : i ≤ 126) (hl : I 1 1 = nI 240) : tEv E 65 0 [.ref 0, .int (nI i)] [] (mS I J R) Q = Q (some (-3)) (mS I J R) := by
  have e1 : (nI i < 32) = False := eq_false (fun q => by have := (nI_ltI (b := 32) (by omega) (by omega)).mp q; omega)
  have e2 : ((126 : Int32) < nI i) = False := eq_false (fun q => by have := (nI_ltI (a := 126) (by omega) (by omega)).mp q; omega)
  have hz : narrow .boolean (.int 0) = .int 0 := by decide
  simp only [e_65_0, e_65_1, e_65_3, e_65_6, e_65_7, e_65_9, e_65_12, e_65_13, e_65_14, e_65_15, e_65_18, e_65_19, e_65_20, e_65_23, e_65_26, e_65_27, e_65_30, e_65_33, e_65_36, e_65_38, e_18_0, e_18_1, e_18_4, e_18_7, e_18_10, e_18_11, rf_0_0 hR, rf_0_1 hR, rf_0_2 hR, rf_0_3 hR, rf_0_4 hR, rf_0_5 hR, rf_0_6 hR, rf_1_0 hR, rf_3_0 hR, rf_3_2 hR, rf_4_3 hR, rf_4_4 hR, rf_4_5 hR, rf_4_6 hR, rf_4_7 hR, rf_4_8 hR, rf_4_9 hR, rf_12_1 hR, rf_13_3 hR, rf_13_4 hR, rf_13_5 hR, rf_13_6 hR, rf_13_7 hR, rf_13_8 hR, rf_13_9 hR, rf_21_0 hR, rf_21_1 hR, rf_24_0 hR, rf_25_0 hR, rf_26_0 hR, rf_26_1 hR, rf_26_2 hR, rf_26_3 hR, rf_26_4 hR, rf_26_5 hR, rf_26_6 hR, rf_26_7 hR, rf_27_0 hR, rf_27_1 hR, rf_30_0 hR, rf_30_1 hR, rf_33_0 hR, rf_33_1 hR, rf_36_0 hR, rf_36_1 hR, rf_39_0 hR, rf_39_1 hR, rf_42_0 hR, rf_42_1 hR, rf_45_0 hR, rf_45_1 hR, rf_48_0 hR, rf_48_1 hR, rf_51_0 hR, rf_51_1 hR, rf_51_6 hR, rf_51_7 hR, rf_h_3 hR, rf_d_3 hR, rf_h_4 hR, rf_d_4 hR, rf_h_5 hR, rf_d_5 hR, rf_h_6 hR, rf_d_6 hR, rf_h_7 hR, rf_d_7 hR, rf_h_8 hR, rf_d_8 hR, rf_h_9 hR, rf_d_9 hR, rf_12_0 hR, rf_3_1 hR, kn_0, kn_1, kn_2, kn_3, kn_4, kn_5, kn_6, kn_7, kn_8, kn_9, kn_10, kn_11, kn_12, kn_13, kn_14, kn_15, kn_16, kn_17, kn_18, kn_19, kn_20, kn_21, kn_22, kn_23, kn_24, kn_25, kn_26, kn_27, kn_28, kn_29, kn_30, kn_31, kn_32, kn_33, kn_34, kn_35, kn_36, kn_37, kn_38, kn_39, kn_40, kn_41, kn_42, kn_43, kn_44, kn_45, kn_46, kn_47, kn_48, kn_49, kn_50, kn_51, kn_52, kn_53, kn_54, kn_55, ln_2, ln_5, ln_6, ln_7, ln_8, ln_9, ln_10, ln_11, ln_14, ln_15, ln_16, ln_17, ln_18, ln_19, ln_20, ln_22, ln_23, ln_26, ln_28, ln_29, ln_31, ln_32, ln_34, ln_35, ln_37, ln_38, ln_40, ln_41, ln_43, ln_44, ln_46, ln_47, ln_49, ln_50, ln_52, kn_h hR, lt_h hR, kn_h1 hR, ln_h1 hR, lt_h1 hR, kn_h2 hR, ln_h2 hR, lt_h2 hR, kn_h3 hR, ln_h3 hR, lt_h3 hR, kn_h4 hR, ln_h4 hR, lt_h4 hR, kn_h5 hR, ln_h5 hR, lt_h5 hR, kn_h6 hR, ln_h6 hR, lt_h6 hR, kn_h7 hR, ln_h7 hR, lt_h7 hR, kn_d hR, lt_d hR, kn_d1 hR, ln_d1 hR, lt_d1 hR, kn_d2 hR, ln_d2 hR, lt_d2 hR, kn_d3 hR, ln_d3 hR, lt_d3 hR, kn_d4 hR, ln_d4 hR, lt_d4 hR, kn_d5 hR, ln_d5 hR, lt_d5 hR, kn_d6 hR, ln_d6 hR, lt_d6 hR, kn_d7 hR, ln_d7 hR, lt_d7 hR, va_rf_some, push_s, push_n, nb0, nb1, nbb, Nat.reduceLT, e1, e2, if_false, i2c_id i (by omega), hl, show (nI 240 < 240) = False from eq_false (by decide), hz, if_true]
theorem c_write_2 {h d : Nat} (hR : tRef h d R) {Q : Option Int32 → tm_St → Prop} {i n : Nat} (h1 : 32 ≤ i) (h2 : i ≤ 126) (hl : I 1 1 = nI n) (hn : n < 240) : tEv E 65 0 [.ref 0, .int (nI i)] [] (mS I J R) Q = Q (some (nI (n + 1))) (mS (va_up (va_up I 2 (upd (I 2) n (nI i))) 1 (upd (I 1) 1 (nI (n + 1)))) J R) := by
  have e1 : (nI i < 32) = False := eq_false (fun q => by have := (nI_ltI (b := 32) (by omega) (by omega)).mp q; omega)
  have e2 : ((126 : Int32) < nI i) = False := eq_false (fun q => by have := (nI_ltI (a := 126) (by omega) (by omega)).mp q; omega)
  have e3 : (nI n < 240) = True := eq_true (nI_lt (b := 240) (by omega) (by omega))
  have hz : narrow .boolean (.int 1) = .int 1 := by decide
  have hix := inb_nI (j := n) (n := 240) (by omega) (by decide)
  have hcl := nI_cl (n := n) (by omega)
  simp only [e_65_0, e_65_1, e_65_3, e_65_6, e_65_7, e_65_9, e_65_12, e_65_13, e_65_14, e_65_15, e_65_18, e_65_19, e_65_20, e_65_23, e_65_26, e_65_27, e_65_30, e_65_33, e_65_36, e_65_38, e_18_0, e_18_1, e_18_4, e_18_7, e_18_10, e_18_11, e_18_12, e_18_13, e_18_16, e_18_17, e_18_20, e_18_21, e_18_22, e_18_23, e_18_24, e_18_27, e_18_28, e_18_29, e_18_32, e_18_33, rf_0_0 hR, rf_0_1 hR, rf_0_2 hR, rf_0_3 hR, rf_0_4 hR, rf_0_5 hR, rf_0_6 hR, rf_1_0 hR, rf_3_0 hR, rf_3_2 hR, rf_4_3 hR, rf_4_4 hR, rf_4_5 hR, rf_4_6 hR, rf_4_7 hR, rf_4_8 hR, rf_4_9 hR, rf_12_1 hR, rf_13_3 hR, rf_13_4 hR, rf_13_5 hR, rf_13_6 hR, rf_13_7 hR, rf_13_8 hR, rf_13_9 hR, rf_21_0 hR, rf_21_1 hR, rf_24_0 hR, rf_25_0 hR, rf_26_0 hR, rf_26_1 hR, rf_26_2 hR, rf_26_3 hR, rf_26_4 hR, rf_26_5 hR, rf_26_6 hR, rf_26_7 hR, rf_27_0 hR, rf_27_1 hR, rf_30_0 hR, rf_30_1 hR, rf_33_0 hR, rf_33_1 hR, rf_36_0 hR, rf_36_1 hR, rf_39_0 hR, rf_39_1 hR, rf_42_0 hR, rf_42_1 hR, rf_45_0 hR, rf_45_1 hR, rf_48_0 hR, rf_48_1 hR, rf_51_0 hR, rf_51_1 hR, rf_51_6 hR, rf_51_7 hR, rf_h_3 hR, rf_d_3 hR, rf_h_4 hR, rf_d_4 hR, rf_h_5 hR, rf_d_5 hR, rf_h_6 hR, rf_d_6 hR, rf_h_7 hR, rf_d_7 hR, rf_h_8 hR, rf_d_8 hR, rf_h_9 hR, rf_d_9 hR, rf_12_0 hR, rf_3_1 hR, kn_0, kn_1, kn_2, kn_3, kn_4, kn_5, kn_6, kn_7, kn_8, kn_9, kn_10, kn_11, kn_12, kn_13, kn_14, kn_15, kn_16, kn_17, kn_18, kn_19, kn_20, kn_21, kn_22, kn_23, kn_24, kn_25, kn_26, kn_27, kn_28, kn_29, kn_30, kn_31, kn_32, kn_33, kn_34, kn_35, kn_36, kn_37, kn_38, kn_39, kn_40, kn_41, kn_42, kn_43, kn_44, kn_45, kn_46, kn_47, kn_48, kn_49, kn_50, kn_51, kn_52, kn_53, kn_54, kn_55, ln_2, ln_5, ln_6, ln_7, ln_8, ln_9, ln_10, ln_11, ln_14, ln_15, ln_16, ln_17, ln_18, ln_19, ln_20, ln_22, ln_23, ln_26, ln_28, ln_29, ln_31, ln_32, ln_34, ln_35, ln_37, ln_38, ln_40, ln_41, ln_43, ln_44, ln_46, ln_47, ln_49, ln_50, ln_52, kn_h hR, lt_h hR, kn_h1 hR, ln_h1 hR, lt_h1 hR, kn_h2 hR, ln_h2 hR, lt_h2 hR, kn_h3 hR, ln_h3 hR, lt_h3 hR, kn_h4 hR, ln_h4 hR, lt_h4 hR, kn_h5 hR, ln_h5 hR, lt_h5 hR, kn_h6 hR, ln_h6 hR, lt_h6 hR, kn_h7 hR, ln_h7 hR, lt_h7 hR, kn_d hR, lt_d hR, kn_d1 hR, ln_d1 hR, lt_d1 hR, kn_d2 hR, ln_d2 hR, lt_d2 hR, kn_d3 hR, ln_d3 hR, lt_d3 hR, kn_d4 hR, ln_d4 hR, lt_d4 hR, kn_d5 hR, ln_d5 hR, lt_d5 hR, kn_d6 hR, ln_d6 hR, lt_d6 hR, kn_d7 hR, ln_d7 hR, lt_d7 hR, va_rf_some, push_s, push_n, nb0, nb1, nbb, Nat.reduceLT, e1, e2, if_false, i2c_id i (by omega), hl, e3, hz, if_true, hix, hcl, nar12 i (by omega), vu, ud, Nat.reduceEqDiff, nI_1, show ((1 : Int32) = 0) = False from eq_false (by decide)]
theorem st_write (g : GOOD I J R) {x : Int32} : STEP E 65 [.ref 0, .int x] 48 [.ref 56, .int x] I J R := by
  have g0 := g
  obtain ⟨h, d, nr, nt, hR, ⟨⟨y, pl, u, nx, aa, k, hW, hG, hD⟩, n, tc, hT⟩, hJ⟩ := g
  have hh := hh_of hR
  cases hx : decide ((32 : Int32) ≤ x ∧ x ≤ 126) with
  | false => exact st_same g0 (fun Q => c_write_0 hR hx) (fun Q => m_write_0 hR hx)
  | true =>
    obtain ⟨x1, x2⟩ := of_decide_eq_true hx
    obtain ⟨i, i1, rfl⟩ : ∃ i, i < 127 ∧ x = nI i := by
      rcases pk_ix x (n := 127) (by decide) with q | q | q
      · exfalso
        rw [Int32.lt_iff_toInt_lt, show (0 : Int32).toInt = 0 from rfl] at q
        rw [Int32.le_iff_toInt_le, show (32 : Int32).toInt = 32 from rfl] at x1
        omega
      · exfalso
        rw [Int32.le_iff_toInt_le, show (nI 127).toInt = 127 from rfl] at q
        rw [Int32.le_iff_toInt_le, show (126 : Int32).toInt = 126 from rfl] at x2
        omega
      · exact q
    have i32 : 32 ≤ i := by
      rw [Int32.le_iff_toInt_le, show (32 : Int32).toInt = 32 from rfl, nI_toInt (by omega)] at x1
      omega
    by_cases c : n = 240
    · subst c
      exact st_same g0 (fun Q => c_write_1 hR i32 (by omega) hT.2.1) (fun Q => m_write_1 hR hx hT.1.1)
    · have hn : n < 240 := by have := hT.1.2.1; omega
      have hm := fun {Q} => m_write_2 (E := E) (Q := Q) (I := va_up (va_up I 2 (upd (I 2) n (nI i))) 1 (upd (I 1) 1 (nI (n + 1)))) (J := J) hR hx hn (show _ = nI n from hT.1.1)
      have lo : ∀ c, 3 ≤ c → c ≠ 56 → c ≠ 66 → (va_up (va_up (va_up (va_up I 2 (upd (I 2) n (nI i))) 1 (upd (I 1) 1 (nI (n + 1)))) 66 (upd (I 66) n (nI i))) 56 (upd (I 56) 13 (nI (n + 1)))) c = I c := fun c g1 g2 g3 => by rw [vu, if_neg g2, vu, if_neg g3, vu, if_neg (by omega), vu, if_neg (by omega)]
      have hag : agr I (va_up (va_up (va_up (va_up I 2 (upd (I 2) n (nI i))) 1 (upd (I 1) 1 (nI (n + 1)))) 66 (upd (I 66) n (nI i))) 56 (upd (I 56) 13 (nI (n + 1)))) := ⟨⟨rfl, rfl⟩, fun c c1 c2 => lo c (by omega) (by omega) (by omega), fun c c1 c2 => lo c (by omega) (by omega) (by omega), fun _ _ => rfl, fun _ _ _ => rfl, fun _ _ => ⟨rfl, rfl⟩⟩
      refine ⟨nI (n + 1), _, R, va_up (va_up (va_up (va_up I 2 (upd (I 2) n (nI i))) 1 (upd (I 1) 1 (nI (n + 1)))) 66 (upd (I 66) n (nI i))) 56 (upd (I 56) 13 (nI (n + 1))), fun Q => c_write_2 hR i32 (by omega) hT.2.1 hn, fun Q => hm, h, d, nr, nt, hR, ⟨⟨y, pl, u, nx, aa, k, RW_agr hh hag hW, RNG_same hh ⟨hag.1, hag.2.1, hag.2.2.1⟩ ⟨rfl, rfl⟩ rfl (fun c c1 c2 => lo c (by omega) (by omega) (by omega)) (fun _ _ _ => rfl) hG, DB_same rfl rfl rfl rfl hD⟩, n + 1, fun p => if p = n then i else tc p, ⟨rfl, by omega, fun p hp => ?_⟩, rfl, by omega, fun p hp => ?_⟩, hJ⟩
      · show upd (I 66) n (nI i) p = nI (if p = n then i else tc p) ∧ 32 ≤ (if p = n then i else tc p) ∧ (if p = n then i else tc p) ≤ 126
        rw [ud]
        by_cases e : p = n
        · rw [if_pos e, if_pos e]
          exact ⟨rfl, i32, by omega⟩
        · rw [if_neg e, if_neg e]
          exact hT.1.2.2 p (by omega)
      · show upd (I 2) n (nI i) p = nI (if p = n then i else tc p) ∧ 32 ≤ (if p = n then i else tc p) ∧ (if p = n then i else tc p) ≤ 126
        rw [ud]
        by_cases e : p = n
        · rw [if_pos e, if_pos e]
          exact ⟨rfl, i32, by omega⟩
        · rw [if_neg e, if_neg e]
          exact hT.2.2.2 p (by omega)
end I1
