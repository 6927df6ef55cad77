/-! ===== class and model: an act done, a turn's end ===== -/
section E5
variable {I I' : Nat → Nat → Int32} {h nr nt y : Nat} {pl : Nat → Nat}
theorem RW_mk (hh : h = 4 ∨ h = 13) (hC : RW I h nr nt y pl) (a : hsm I I') {y' : Nat} {pl' : Nat → Nat} (h1 : ∀ t, t < nt → I' 57 t = nI (pl' t) ∧ (pl' t < nr ∨ (10 ≤ pl' t ∧ pl' t < 10 + nt) ∨ pl' t = 30)) (h2 : ∀ t, t < nt → ends pl' t) (h3 : I' 57 48 = nI y' ∧ y' < nr) (h4 : cP I' nt pl')
    (h5 : (∀ t, t < 32 → bt (I' 21 2) t = (decide (t < nt) && mst I' t 1)) ∧ (∀ t, t < 32 → bt (I' 21 3) t = (decide (t < nt) && mst I' t 2)) ∧ ∀ t, t < 32 → bt (I' 21 4) t = (decide (t < nt) && mst I' t 4))
    (h6 : I' 21 5 = I' 57 48 ∧ I' 21 6 = I' 57 49 ∧ I' 21 7 = I' 57 50 ∧ I' 21 8 = I' 57 51) (h7 : ∀ t, t < nt → mtr I t 16 = true → I' 23 t = I' 57 (32 + t))
    (h8 : ∀ t, t < nt → (mst I' t 4 = true → mtr I t 16 = true) ∧ (mtr I t 16 = true → ∃ o, o < 100 ∧ I' 57 (32 + t) = nI o ∧ (mst I' t 4 = true → 0 < o))) (h9 : mLa I' nt) : RW I' h nr nt y' pl' := by
  obtain ⟨⟨a1, a2⟩, a3, a4⟩ := a
  obtain ⟨⟨hW, hY, hH, hS, hD⟩, hO, hL, hLa⟩ := hC
  have e58 := a4 58 (by decide) (by decide)
  have e59 := a4 59 (by decide) (by decide)
  have e60 := a4 60 (by decide) (by decide)
  have e61 := a4 61 (by decide) (by decide)
  have e62 := a4 62 (by decide) (by decide)
  have e63 := a4 63 (by decide) (by decide)
  have e64 := a4 64 (by decide) (by decide)
  have e65 := a4 65 (by decide) (by decide)
  have q0 := a3 h (by omega) (by omega)
  have q1 := a3 (h + 1) (by omega) (by omega)
  have q2 := a3 (h + 2) (by omega) (by omega)
  have q3 := a3 (h + 3) (by omega) (by omega)
  have q4 := a3 (h + 4) (by omega) (by omega)
  have q6 := a3 (h + 6) (by omega) (by omega)
  have q7 := a3 (h + 7) (by omega) (by omega)
  have hm : mtr I' = mtr I := by
    funext t x
    unfold mtr
    rw [e62]
  refine ⟨⟨⟨a1.trans hW.1, a2.trans hW.2.1, hW.2.2.1, hW.2.2.2.1, h1, h2⟩, ⟨h3.1, h3.2, ?_, ?_⟩, ?_, ⟨⟨h4, h5.1, h5.2.1, h5.2.2⟩, h6.1, h6.2.1, h6.2.2.1, h6.2.2.2, ?_⟩, ?_⟩, ?_, ?_, h9⟩
  · rw [e64]; exact hY.2.2.1
  · rw [e65]; exact hY.2.2.2
  · obtain ⟨⟨b1, b2, b3⟩, ⟨b4, b5, b6, b7, b8, b9⟩, b10, b11, b12, b13, b14, b15⟩ := hH
    refine ⟨⟨by rw [q0]; exact b1, by rw [q0]; exact b2, by rw [q0, e58]; exact b3⟩, ⟨by rw [q1, e64]; exact b4, by rw [q2, e65]; exact b5, by rw [q3, e59]; exact b6, by rw [q4, e60]; exact b7, ?_, by rw [q7, e63]; exact b9⟩, ?_⟩
    · unfold cWt at b8 ⊢
      rw [q6, e61]
      exact b8
    · rw [hm]
      unfold cB at b10 b11 b12 b13 b14 b15 ⊢
      rw [q0]
      exact ⟨b10, b11, b12, b13, b14, b15⟩
  · rw [hm]
    exact h7
  · intro k t hk ht
    rw [e65, hm]
    exact hD k t hk ht
  · intro t ht
    rw [hm]
    exact h8 t ht
  · intro r hr
    rw [e58]
    exact hL r hr
theorem ends_in {x z : Nat} (hz : z < 16) (hxz : x ≠ z) (hw : wi pl z x = false) (hez : ends pl z) {t : Nat} (ht : ends pl t) : ends (updN pl x (10 + z)) t := by
  have hno : ∀ i, ch pl z i ≠ 10 + x := by
    have h16 : ∀ i, i < 16 → ch pl z i ≠ 10 + x := fun i hi e => by
      rw [wi_iff.mpr ⟨i, hi, e⟩] at hw
      cases hw
    intro i
    by_cases c : i < 16
    · exact h16 i c
    · have ho : inT (ch pl z 15) = false := fin_out hz hez
      rw [ch_stop ho i (by omega)]
      exact h16 15 (by decide)
  have hy : ∀ m, ch (updN pl x (10 + z)) z m = ch pl z m := by
    intro m
    induction m with
    | zero =>
      unfold ch updN
      rw [if_neg (Ne.symm hxz)]
    | succ m ih =>
      rw [ch, ih, ch]
      by_cases hi : inT (ch pl z m) = true
      · rw [nx_in hi, nx_in hi, updN, if_neg]
        intro e
        have := of_decide_eq_true hi
        exact hno m (by omega)
      · rw [nx_out (by simpa using hi), nx_out (by simpa using hi)]
  have ey : ends (updN pl x (10 + z)) z := by
    obtain ⟨n, hn⟩ := hez
    exact ⟨n, by rw [hy n]; exact hn⟩
  obtain ⟨n, hn⟩ := ht
  have key : ∀ m, (∃ i, i ≤ m ∧ ch (updN pl x (10 + z)) t i = 10 + z) ∨ ch (updN pl x (10 + z)) t m = ch pl t m := by
    intro m
    induction m with
    | zero =>
      unfold ch updN
      by_cases e : t = x
      · exact Or.inl ⟨0, Nat.le_refl 0, by unfold ch; rw [if_pos e]⟩
      · right
        rw [if_neg e]
    | succ m ih =>
      rcases ih with ⟨i, h1, h2⟩ | ih
      · exact Or.inl ⟨i, by omega, h2⟩
      · by_cases hi : inT (ch pl t m) = true
        · by_cases e : ch pl t m - 10 = x
          · left
            refine ⟨m + 1, Nat.le_refl _, ?_⟩
            rw [ch, ih, nx_in hi, updN, if_pos e]
          · right
            rw [ch, ih, nx_in hi, updN, if_neg e, ch, nx_in hi]
        · right
          rw [ch, ih, nx_out (by simpa using hi), ch, nx_out (by simpa using hi)]
  rcases key n with ⟨i, _, h2⟩ | h2
  · obtain ⟨k, hk⟩ := ey
    exact ⟨i + 1 + k, by rw [ch_after hz h2]; exact hk⟩
  · exact ⟨n, by rw [h2]; exact hn⟩
theorem act_move (hh : h = 4 ∨ h = 13) (hC : RW I h nr nt y pl) (a : hsm I I') {x v : Nat} (hx : x < nt) (hv : v < nr ∨ (10 ≤ v ∧ v < 10 + nt) ∨ v = 30) (he : ∀ t, t < nt → ends (updN pl x v) t) (g22 : ∀ t, t < 16 → I' 22 t = if t = x then nI (cv v) else I 22 t) (g21 : ∀ k, 2 ≤ k → k < 9 → I' 21 k = if k = 7 then nI x else I 21 k) (g23 : ∀ t, t < 16 → I' 23 t = I 23 t) (g57 : ∀ q, q < 52 → I' 57 q = if q = 50 then nI x else if q = x then nI v else I 57 q) : RW I' h nr nt y (updN pl x v) := by
  have hC0 := hC
  obtain ⟨⟨hW, hY, hH, hS, hD⟩, hO, hL, hLa⟩ := hC
  have h16 := hW.2.2.2.1
  have hs : ∀ t m, t < nt → mst I' t m = mst I t m := fun t m ht => by
    unfold mst
    rw [g57 _ (by omega), if_neg (by omega), if_neg (by omega)]
  have hb : ∀ f m, 2 ≤ f → f < 5 → cB I 21 f nt (fun t => mst I t m) → ∀ t, t < 32 → bt (I' 21 f) t = (decide (t < nt) && mst I' t m) := fun f m f1 f2 g t ht => by
    rw [g21 f f1 (by omega), if_neg (by omega), g t ht]
    by_cases c : t < nt
    · rw [hs t m c]
    · rw [decide_eq_false c, Bool.false_and, Bool.false_and]
  refine RW_mk hh hC0 a (fun t ht => ?_) he ⟨?_, hY.2.1⟩ (fun t ht => ?_) ⟨hb 2 1 (by decide) (by decide) hS.1.2.1, hb 3 2 (by decide) (by decide) hS.1.2.2.1, hb 4 4 (by decide) (by decide) hS.1.2.2.2⟩ ⟨?_, ?_, ?_, ?_⟩ (fun t ht hl => ?_) (fun t ht => ?_) (Or.inr ⟨x, hx, ?_⟩)
  · rw [g57 t (by omega), if_neg (by omega)]
    unfold updN
    by_cases e : t = x
    · rw [if_pos e, if_pos e]
      exact ⟨rfl, hv⟩
    · rw [if_neg e, if_neg e]
      exact hW.2.2.2.2.1 t ht
  · rw [g57 48 (by decide), if_neg (by decide), if_neg (by omega)]
    exact hY.1
  · rw [g22 t ht]
    unfold updN
    by_cases e : t = x
    · rw [if_pos e, if_pos e, if_pos (by omega)]
    · rw [if_neg e, if_neg e]
      exact hS.1.1 t ht
  · rw [g21 5 (by decide) (by decide), g57 48 (by decide), if_neg (by decide), if_neg (by decide), if_neg (by omega)]
    exact hS.2.1
  · rw [g21 6 (by decide) (by decide), g57 49 (by decide), if_neg (by decide), if_neg (by decide), if_neg (by omega)]
    exact hS.2.2.1
  · rw [g21 7 (by decide) (by decide), g57 50 (by decide), if_pos rfl, if_pos rfl]
  · rw [g21 8 (by decide) (by decide), g57 51 (by decide), if_neg (by decide), if_neg (by decide), if_neg (by omega)]
    exact hS.2.2.2.2.1
  · rw [g23 t (by omega), g57 _ (by omega), if_neg (by omega), if_neg (by omega)]
    exact hS.2.2.2.2.2 t ht hl
  · rw [hs t 4 ht, g57 _ (by omega), if_neg (by omega), if_neg (by omega)]
    exact hO t ht
  · rw [g57 50 (by decide), if_pos rfl]
theorem act_bits (hh : h = 4 ∨ h = 13) (hC : RW I h nr nt y pl) (a : hsm I I') {x : Nat} {w : Int32} (hx : x < nt) (g22 : ∀ t, t < 16 → I' 22 t = I 22 t) (g2 : ∀ t, t < 32 → bt (I' 21 2) t = if t = x then !decide (w &&& 1 = 0) else bt (I 21 2) t) (g3 : ∀ t, t < 32 → bt (I' 21 3) t = if t = x then !decide (w &&& 2 = 0) else bt (I 21 3) t) (g4 : ∀ t, t < 32 → bt (I' 21 4) t = if t = x then !decide (w &&& 4 = 0) else bt (I 21 4) t) (g21 : ∀ k, 5 ≤ k → k < 9 → I' 21 k = if k = 7 then nI x else I 21 k) (g23 : ∀ t, t < 16 → I' 23 t = I 23 t) (g57 : ∀ q, q < 52 → I' 57 q = if q = 50 then nI x else if q = 16 + x then w else I 57 q) (gl : (!decide (w &&& 4 = 0)) = true → mtr I x 16 = true ∧ ∃ o, o < 100 ∧ I 57 (32 + x) = nI o ∧ 0 < o) : RW I' h nr nt y pl := by
  have hC0 := hC
  obtain ⟨⟨hW, hY, hH, hS, hD⟩, hO, hL, hLa⟩ := hC
  have h16 := hW.2.2.2.1
  have hs : ∀ t m, t < nt → mst I' t m = if t = x then !decide (w &&& m = 0) else mst I t m := fun t m ht => by
    unfold mst
    rw [g57 _ (by omega), if_neg (by omega)]
    by_cases e : t = x
    · rw [if_pos (by omega), if_pos e]
    · rw [if_neg (by omega), if_neg e]
  have hb : ∀ f m, (∀ t, t < 32 → bt (I' 21 f) t = if t = x then !decide (w &&& m = 0) else bt (I 21 f) t) → cB I 21 f nt (fun t => mst I t m) → ∀ t, t < 32 → bt (I' 21 f) t = (decide (t < nt) && mst I' t m) := fun f m g0 g t ht => by
    rw [g0 t ht]
    by_cases e : t = x
    · have ht2 : t < nt := by omega
      rw [if_pos e, decide_eq_true ht2, hs t m ht2, if_pos e, Bool.true_and]
    · rw [if_neg e, g t ht]
      by_cases c : t < nt
      · rw [hs t m c, if_neg e]
      · rw [decide_eq_false c, Bool.false_and, Bool.false_and]
  refine RW_mk hh hC0 a (fun t ht => ?_) hW.2.2.2.2.2 ⟨?_, hY.2.1⟩ (fun t ht => ?_) ⟨hb 2 1 g2 hS.1.2.1, hb 3 2 g3 hS.1.2.2.1, hb 4 4 g4 hS.1.2.2.2⟩ ⟨?_, ?_, ?_, ?_⟩ (fun t ht hl => ?_) (fun t ht => ?_) (Or.inr ⟨x, hx, ?_⟩)
  · rw [g57 t (by omega), if_neg (by omega), if_neg (by omega)]
    exact hW.2.2.2.2.1 t ht
  · rw [g57 48 (by decide), if_neg (by decide), if_neg (by omega)]
    exact hY.1
  · rw [g22 t ht]
    exact hS.1.1 t ht
  · rw [g21 5 (by decide) (by decide), g57 48 (by decide), if_neg (by decide), if_neg (by decide), if_neg (by omega)]
    exact hS.2.1
  · rw [g21 6 (by decide) (by decide), g57 49 (by decide), if_neg (by decide), if_neg (by decide), if_neg (by omega)]
    exact hS.2.2.1
  · rw [g21 7 (by decide) (by decide), g57 50 (by decide), if_pos rfl, if_pos rfl]
  · rw [g21 8 (by decide) (by decide), g57 51 (by decide), if_neg (by decide), if_neg (by decide), if_neg (by omega)]
    exact hS.2.2.2.2.1
  · rw [g23 t (by omega), g57 _ (by omega), if_neg (by omega), if_neg (by omega)]
    exact hS.2.2.2.2.2 t ht hl
  · rw [hs t 4 ht, g57 _ (by omega), if_neg (show ¬ 32 + t = 50 by omega), if_neg (show ¬ 32 + t = 16 + x by omega)]
    by_cases e : t = x
    · subst e
      rw [if_pos rfl]
      refine ⟨fun q => (gl q).1, fun q => ?_⟩
      obtain ⟨o, o1, o2, -⟩ := (hO t ht).2 q
      refine ⟨o, o1, o2, fun q2 => ?_⟩
      obtain ⟨-, o', p1, p2, p3⟩ := gl q2
      rw [o2] at p2
      have := (nI_eq (by omega) (by omega)).mp p2
      omega
    · rw [if_neg e]
      exact hO t ht
  · rw [g57 50 (by decide), if_pos rfl]
theorem act_told (hh : h = 4 ∨ h = 13) (hC : RW I h nr nt y pl) (a : hsm I I') {w : Int32} {v : Int32} (hw : w = I 57 50 ∨ ∃ x, x < nt ∧ w = nI x) (g22 : ∀ t, t < 16 → I' 22 t = I 22 t) (g21 : ∀ k, 2 ≤ k → k < 9 → I' 21 k = if k = 7 then w else if k = 8 then v else I 21 k) (g23 : ∀ t, t < 16 → I' 23 t = I 23 t) (g57 : ∀ q, q < 52 → I' 57 q = if q = 50 then w else if q = 51 then v else I 57 q) : RW I' h nr nt y pl := by
  have hC0 := hC
  obtain ⟨⟨hW, hY, hH, hS, hD⟩, hO, hL, hLa⟩ := hC
  have h16 := hW.2.2.2.1
  have hs : ∀ t m, t < nt → mst I' t m = mst I t m := fun t m ht => by
    unfold mst
    rw [g57 _ (by omega), if_neg (by omega), if_neg (by omega)]
  have hb : ∀ f m, 2 ≤ f → f < 5 → cB I 21 f nt (fun t => mst I t m) → ∀ t, t < 32 → bt (I' 21 f) t = (decide (t < nt) && mst I' t m) := fun f m f1 f2 g t ht => by
    rw [g21 f f1 (by omega), if_neg (by omega), if_neg (by omega), g t ht]
    by_cases c : t < nt
    · rw [hs t m c]
    · rw [decide_eq_false c, Bool.false_and, Bool.false_and]
  refine RW_mk hh hC0 a (fun t ht => ?_) hW.2.2.2.2.2 ⟨?_, hY.2.1⟩ (fun t ht => ?_) ⟨hb 2 1 (by decide) (by decide) hS.1.2.1, hb 3 2 (by decide) (by decide) hS.1.2.2.1, hb 4 4 (by decide) (by decide) hS.1.2.2.2⟩ ⟨?_, ?_, ?_, ?_⟩ (fun t ht hl => ?_) (fun t ht => ?_) ?_
  · rw [g57 t (by omega), if_neg (by omega), if_neg (by omega)]
    exact hW.2.2.2.2.1 t ht
  · rw [g57 48 (by decide), if_neg (by decide), if_neg (by decide)]
    exact hY.1
  · rw [g22 t ht]
    exact hS.1.1 t ht
  · rw [g21 5 (by decide) (by decide), g57 48 (by decide), if_neg (by decide), if_neg (by decide), if_neg (by decide), if_neg (by decide)]
    exact hS.2.1
  · rw [g21 6 (by decide) (by decide), g57 49 (by decide), if_neg (by decide), if_neg (by decide), if_neg (by decide), if_neg (by decide)]
    exact hS.2.2.1
  · rw [g21 7 (by decide) (by decide), g57 50 (by decide), if_pos rfl, if_pos rfl]
  · rw [g21 8 (by decide) (by decide), g57 51 (by decide), if_neg (by decide), if_pos rfl, if_neg (by decide), if_pos rfl]
  · rw [g23 t (by omega), g57 _ (by omega), if_neg (by omega), if_neg (by omega)]
    exact hS.2.2.2.2.2 t ht hl
  · rw [hs t 4 ht, g57 _ (by omega), if_neg (by omega), if_neg (by omega)]
    exact hO t ht
  · unfold mLa
    rw [g57 50 (by decide), if_pos rfl]
    rcases hw with q | q
    · rw [q]; exact hLa
    · exact Or.inr q
theorem act_you (hh : h = 4 ∨ h = 13) (hC : RW I h nr nt y pl) (a : hsm I I') {r : Nat} (hr : r < nr) (g22 : ∀ t, t < 16 → I' 22 t = I 22 t) (g21 : ∀ k, 2 ≤ k → k < 9 → I' 21 k = if k = 5 then nI r else I 21 k) (g23 : ∀ t, t < 16 → I' 23 t = I 23 t) (g57 : ∀ q, q < 52 → I' 57 q = if q = 48 then nI r else I 57 q) : RW I' h nr nt r pl := by
  have hC0 := hC
  obtain ⟨⟨hW, hY, hH, hS, hD⟩, hO, hL, hLa⟩ := hC
  have h16 := hW.2.2.2.1
  have hs : ∀ t m, t < nt → mst I' t m = mst I t m := fun t m ht => by
    unfold mst
    rw [g57 _ (by omega), if_neg (by omega)]
  have hb : ∀ f m, 2 ≤ f → f < 5 → cB I 21 f nt (fun t => mst I t m) → ∀ t, t < 32 → bt (I' 21 f) t = (decide (t < nt) && mst I' t m) := fun f m f1 f2 g t ht => by
    rw [g21 f f1 (by omega), if_neg (by omega), g t ht]
    by_cases c : t < nt
    · rw [hs t m c]
    · rw [decide_eq_false c, Bool.false_and, Bool.false_and]
  refine RW_mk hh hC0 a (fun t ht => ?_) hW.2.2.2.2.2 ⟨?_, hr⟩ (fun t ht => ?_) ⟨hb 2 1 (by decide) (by decide) hS.1.2.1, hb 3 2 (by decide) (by decide) hS.1.2.2.1, hb 4 4 (by decide) (by decide) hS.1.2.2.2⟩ ⟨?_, ?_, ?_, ?_⟩ (fun t ht hl => ?_) (fun t ht => ?_) ?_
  · rw [g57 t (by omega), if_neg (by omega)]
    exact hW.2.2.2.2.1 t ht
  · rw [g57 48 (by decide), if_pos rfl]
  · rw [g22 t ht]
    exact hS.1.1 t ht
  · rw [g21 5 (by decide) (by decide), g57 48 (by decide), if_pos rfl, if_pos rfl]
  · rw [g21 6 (by decide) (by decide), g57 49 (by decide), if_neg (by decide), if_neg (by decide)]
    exact hS.2.2.1
  · rw [g21 7 (by decide) (by decide), g57 50 (by decide), if_neg (by decide), if_neg (by decide)]
    exact hS.2.2.2.1
  · rw [g21 8 (by decide) (by decide), g57 51 (by decide), if_neg (by decide), if_neg (by decide)]
    exact hS.2.2.2.2.1
  · rw [g23 t (by omega), g57 _ (by omega), if_neg (by omega)]
    exact hS.2.2.2.2.2 t ht hl
  · rw [hs t 4 ht, g57 _ (by omega), if_neg (by omega)]
    exact hO t ht
  · unfold mLa
    rw [g57 50 (by decide), if_neg (by decide)]
    exact hLa
end E5
