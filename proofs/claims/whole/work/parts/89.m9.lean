/-! ===== both made: the start is good ===== -/
section M9
variable {E : tm_Env} {I I' I1 I3 : Nat → Nat → Int32} {J : Nat → Nat → Int64} {R : Nat → Nat → Option Nat} {pp : Nat → Nat}
theorem fh_36 : fhr.2.1 56 36 = 0 := by decide +kernel
theorem agx_13 {h : Nat} {I : Nat → Nat → Int32} (hh : h = 4 ∨ h = 13) : agx h I (va_up I 56 (upd (I 56) 13 0)) := by
  refine ⟨⟨?_, ?_⟩, fun c c1 c2 => ?_, fun c c1 c2 => ?_, fun q hq => ?_, fun k k1 k2 => ?_, fun t ht => ⟨?_, ?_⟩⟩
  · rw [vu_eq, ud, if_neg (by decide)]
  · rw [vu_eq, ud, if_neg (by decide)]
  · rw [vu, if_neg (by omega)]
  · rw [vu, if_neg (by omega)]
  · rw [vu, if_neg (by decide)]
  · rw [vu, if_neg (by decide)]
  · rw [vu, if_neg (by decide)]
  · rw [vu, if_neg (by decide)]
theorem m_GOOD (hR : tRef 4 13 R) (hD : DR fhr.2.1 I1 4 fhr.2.2.1 fhr.2.2.2 pp) (hc : clI I1 I3) (hm : mfI I3 I 109) (hJ : JW J) : TX I 109 (chN 1) ∧ ∃ M', rds 109 (chN 1) (109 + 1) (rd0 I) 0 0 0 = (none, M', fhr.2.2.1, fhr.2.2.2) ∧ GOOD (va_up (laid (hr M' 109) fhr.2.2.1 fhr.2.2.2) 56 (upd (laid (hr M' 109) fhr.2.2.1 fhr.2.2.2 56) 13 0)) J R := by
  obtain ⟨a1, a2, a3, a4, a5, a6⟩ := hc
  obtain ⟨m1, m2, m3, m4⟩ := hm
  have lo : ∀ c, c < 56 → I c = I3 c := fun c hc => m1 c (by omega) (by omega)
  have hi : ∀ c, 56 ≤ c → I c = IM0 c := fun c hc => by
    funext k
    unfold IM0
    by_cases e : c = 56
    · rw [if_pos e, e]
      by_cases e2 : k = 13
      · rw [if_pos e2, e2]; exact m3
      · rw [if_neg e2]; exact m2 k e2
    · rw [if_neg e]
      by_cases e2 : c = 66
      · rw [if_pos e2, e2]; exact m4 k
      · rw [if_neg e2, m1 c e e2, a1 c hc]
  have ew : I = Wc I IM0 := Wc_eq hi
  have hT : TX I 109 (chN 1) := ⟨m3, by decide, fun p hp => ⟨by rw [m4 p, if_pos hp], ch_32 p hp⟩⟩
  have hr1 : rds 109 (chN 1) (109 + 1) (rd0 I) 0 0 0 = (none, Wc I fhr.2.1, fhr.2.2.1, fhr.2.2.2) := by
    rw [ew, rd0_W, rds_W, fh_eq, ← ew]
  have klo : ∀ c, c < 56 → hr (Wc I fhr.2.1) 109 c = I3 c := fun c hc => by
    rw [hr_c _ _ c (by omega)]
    show Wc I fhr.2.1 c = _
    unfold Wc
    rw [if_pos hc, lo c hc]
  have hD1 : DR (hr (Wc I fhr.2.1) 109) I1 4 fhr.2.2.1 fhr.2.2.2 pp := DR_hr (DR_W hD)
  have hRW : RW (laid (hr (Wc I fhr.2.1) 109) fhr.2.2.1 fhr.2.2.2) 4 fhr.2.2.1 fhr.2.2.2 0 pp := by
    refine lay_RW (Or.inl rfl) hD1 fh_ok.2 (fun c c0 c1 c2 c3 c4 c5 => ?_) (fun k hk => ?_) ?_
    · rw [klo c c0, a2 c c0 c1 c2 c3 c4 c5]
    · rw [klo 22 (by decide), klo 23 (by decide)]
      exact a3 k hk
    · rw [klo 21 (by decide)]
      exact a4
  refine ⟨hT, _, hr1, 4, 13, fhr.2.2.1, fhr.2.2.2, hR, ⟨⟨0, pp, 0, 0, 0, 0, RW_agx (Or.inl rfl) (agx_13 (Or.inl rfl)) hRW, ⟨by decide, by decide, ⟨?_, ?_, ?_⟩, fun j j1 j2 => absurd j2 (by omega)⟩, DB_0 (by decide) ?_ ?_ ?_⟩, 0, fun _ => 0, ⟨?_, by decide, fun p hp => absurd hp (Nat.not_lt_zero p)⟩, ⟨?_, by decide, fun p hp => absurd hp (Nat.not_lt_zero p)⟩⟩, hJ⟩
  · rw [vu, if_neg (by decide), ld_x (by decide), klo 25 (by decide)]
    exact a5.1
  · rw [vu, if_neg (by decide), ld_x (by decide), klo 25 (by decide)]
    exact a5.2.1
  · rw [vu_eq, ud, if_neg (by decide), ld_56, ud, if_neg (by decide), ud, if_pos rfl]
    rfl
  · rw [vu, if_neg (by decide), ld_x (by decide), klo 55 (by decide)]
    exact a5.2.2
  · rw [vu_eq, ud, if_neg (by decide), ld_56, ud, if_pos rfl]
  · rw [vu_eq, ud, if_neg (by decide), ld_56, ud, if_neg (by decide), ud, if_neg (by decide), ud, if_neg (by decide), ud, if_neg (by decide), hr_f _ _ _ (by decide)]
    show Wc I fhr.2.1 56 36 = _
    rw [Wc_c (by decide)]
    exact fh_36
  · rw [vu_eq, ud, if_pos rfl]
    rfl
  · rw [vu, if_neg (by decide), ld_x (by decide), klo 1 (by decide)]
    exact a6
end M9
theorem tL_0 : tL.take 0 = [] := Eq.trans rfl rfl
/-- the law's run ends with 1 -/
theorem tm_law (xs : Nat → Int32) (L : Nat) (hL : L ≤ 2048) : tEv (xs, L) 0 0 [.ref 2000, tm_dum, tm_dum, tm_dum] [] ((tL.take 0, fun _ _ => 0, fun _ _ => 0, fun _ _ => none), (0, 0)) (fun r _ => r = some 1) := by
  obtain ⟨Ra, ha, sa⟩ := c_made (E := (xs, L)) (I := fun _ _ => 0) (J := fun _ _ => 0) (fun _ => rfl) (fun _ => rfl)
  obtain ⟨Ib, hb, sb⟩ := c_app (E := (xs, L)) (J := fun _ _ => 0) ha 109 0 (fun _ _ => 0) (by decide) ⟨fun _ _ _ => rfl, rfl, fun p hp => absurd hp (Nat.not_lt_zero p)⟩
  obtain ⟨I1, Ic, Rc, pp, hok, hRc, hD, hcl, sc⟩ := c_end (E := (xs, L)) (J := fun _ _ => 0) hb ha
  obtain ⟨J1, R1, ⟨hJW, hJL⟩, hR1, sd⟩ := m_made (E := (xs, L)) (I := Ic) (R := Rc) hcl.1 (fun k hk => funext fun j => hok.2 k j hk)
  have hR1' : R1 = bigR Rc := funext fun k => funext fun j => hR1 k j
  have hR : tRef 4 13 R1 := by rw [hR1']; exact hRc
  obtain ⟨Ie, l3, he, se⟩ := m_app (E := (xs, L)) (I0 := Ic) hR hJL 112 0 Ic tm_dum (by decide) ⟨fun _ _ _ => rfl, fun k _ => by rw [hcl.1 56 (by decide)], by rw [hcl.1 56 (by decide)]; rfl, fun p => by rw [hcl.1 66 (by decide), if_neg (show ¬ p < pw 0 from Nat.not_lt_zero p)]⟩
  obtain ⟨hT, M', hrd, hG⟩ := m_GOOD hR hD hcl he hJW
  have sg := fun {Q} => mk_end (E := (xs, L)) (J := J1) (l1 := .int (nI 112)) (l2 := l3) (Q := Q) hR hT hrd fh_ok.2
  have lw := lw_loop (xs := xs) hL 512 0 _ R1 (by omega) (by decide) hG
  have z0 : nI 0 = 0 := rfl
  have I56 : Ic 56 = fun _ => 0 := hcl.1 56 (by decide)
  have R56 : Rc 56 = fun _ => none := funext fun j => hok.2 56 j (by decide)
  have t56 : tL[56]? = some (11, 39) := tg_56
  have sc' := sc (fun r S2 => tEv (xs, L) 0 7 [.ref 2000, tm_dum, tm_dum, tm_dum] (tm_push r [.ref 0]) (S2.1, (56, 1064)) (fun r _ => r = some 1))
  have g2 : tEv (xs, L) 0 7 [.ref 2000, tm_dum, tm_dum, tm_dum] [.ref 0] ((tL.take 56, Ic, fun _ _ => 0, Rc), (56, 1064)) (fun r _ => r = some 1) := by
    rw [e_0_7, e_0_8 (by decide) t56 (by decide) (by decide) (by decide) I56 R56, e_0_11, e_0_12 (by rfl) (by decide) (by decide) (by decide) (by decide)]
    show tEv (xs, L) 64 0 [.ref 56, tm_dum, tm_dum] [] ((tL.take 57, Ic, fun _ _ => 0, Rc), (0, 0)) (fun r S2 => tEv (xs, L) 0 15 [.ref 2000, .ref 0, tm_dum, tm_dum] (tm_push r [.ref 56]) (S2.1, (84, 2287)) (fun r _ => r = some 1))
    rw [sd, se, sg]
    show tEv (xs, L) 0 15 [.ref 2000, .ref 0, tm_dum, tm_dum] [.ref 56] ((tL, _, J1, R1), (84, 2287)) (fun r _ => r = some 1)
    rw [e_0_15, e_0_16, e_0_17]
    exact lw
  have g1 : tEv (xs, L) 46 0 [.ref 0, tm_dum] [] ((tL.take 1, fun _ _ => 0, fun _ _ => 0, fun _ _ => none), (0, 0)) (fun r S2 => tEv (xs, L) 0 7 [.ref 2000, tm_dum, tm_dum, tm_dum] (tm_push r [.ref 0]) (S2.1, (56, 1064)) (fun r _ => r = some 1)) := by
    rw [sa]
    show tEv (xs, L) 46 95 [.ref 0, .int (nI 0)] [] ((tL.take 56, fun _ _ => 0, fun _ _ => 0, Ra), (55, 1057)) _
    rw [sb]
    exact sc' g2
  rw [e_0_0 (by decide) tg_0 (by decide) (by decide) (by decide) rfl rfl, e_0_3, e_0_4 (by rfl) (by decide) (by decide) (by decide) (by decide)]
  exact g1
