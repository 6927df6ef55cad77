/-! ===== class and model: done ===== -/
theorem mturn_cong {f g : Nat → Int32} {nt : Nat} (h16 : nt ≤ 16) (h : ∀ q, q < 52 → f q = g q) : ∀ q, q < 52 → mturn f nt q = mturn g nt q := by
  intro q hq
  unfold mturn
  by_cases c1 : q = 49
  · rw [if_pos c1, if_pos c1, h 49 (by decide)]
  · rw [if_neg c1, if_neg c1]
    by_cases c2 : 32 ≤ q ∧ q < 32 + nt
    · rw [h (q - 16) (by omega), h q hq]
      by_cases c3 : 16 ≤ q ∧ q < 16 + nt
      · rw [h (q + 16) (by omega)]
      · have e1 : ¬ (16 ≤ q ∧ q < 16 + nt ∧ g q &&& 4 ≠ 0) := fun f => c3 ⟨f.1, f.2.1⟩
        rw [if_neg e1, if_neg e1]
    · have e0 : ∀ k : Nat → Int32, ¬ (32 ≤ q ∧ q < 32 + nt ∧ k (q - 16) &&& 4 ≠ 0) := fun k f => c2 ⟨f.1, f.2.1⟩
      rw [if_neg (e0 f), if_neg (e0 g), h q hq]
      by_cases c3 : 16 ≤ q ∧ q < 16 + nt
      · rw [h (q + 16) (by omega)]
      · have e1 : ¬ (16 ≤ q ∧ q < 16 + nt ∧ g q &&& 4 ≠ 0) := fun f => c3 ⟨f.1, f.2.1⟩
        rw [if_neg e1, if_neg e1]
theorem mturn_hi {f : Nat → Int32} {nt q : Nat} (h16 : nt ≤ 16) (hq : 52 ≤ q) : mturn f nt q = f q := by
  unfold mturn
  rw [if_neg (by omega), if_neg (by omega), if_neg (by omega)]
theorem mdoes_cong {f g : Nat → Int32} {pl : Nat → Nat} {nt a x z : Nat} (hx : x < 16) (h : ∀ q, q < 52 → f q = g q) : ∀ q, q < 52 → mdoes f pl nt a x z q = mdoes g pl nt a x z q := by
  intro q hq
  have hu : ∀ (k : Nat) (v w : Int32), v = w → upd f k v q = upd g k w q := fun k v w e => by
    rw [ud, ud, h q hq, e]
  unfold mdoes
  split
  · exact hu _ _ _ rfl
  · split
    · exact hu _ _ _ (h 48 (by decide))
    · split
      · exact hu _ _ _ rfl
      · split
        · exact hu _ _ _ (by rw [h _ (by omega)])
        · split
          · exact hu _ _ _ (by rw [h _ (by omega)])
          · split
            · exact hu _ _ _ (by rw [h _ (by omega)])
            · split
              · exact hu _ _ _ (by rw [h _ (by omega)])
              · split
                · exact hu _ _ _ (by rw [h _ (by omega)])
                · split
                  · exact hu _ _ _ (by rw [h _ (by omega)])
                  · exact hu _ _ _ rfl
theorem mdoes_hi {f : Nat → Int32} {pl : Nat → Nat} {nt a x z q : Nat} (hx : x < 16) (hq : 52 ≤ q) : mdoes f pl nt a x z q = f q := by
  have hu : ∀ (k : Nat) (v : Int32), k < 52 → upd f k v q = f q := fun k v hk => by rw [ud, if_neg (by omega)]
  unfold mdoes
  split
  · exact hu _ _ (by omega)
  · split
    · exact hu _ _ (by omega)
    · split
      · exact hu _ _ (by omega)
      · split
        · exact hu _ _ (by omega)
        · split
          · exact hu _ _ (by omega)
          · split
            · exact hu _ _ (by omega)
            · split
              · exact hu _ _ (by omega)
              · split
                · exact hu _ _ (by omega)
                · split
                  · exact hu _ _ (by omega)
                  · exact hu _ _ (by decide)
section H1
variable {I I1 I3 B Im : Nat → Nat → Int32} {h nr nt y y' u nx : Nat} {pl pl' : Nat → Nat} {G : Nat → Int32}
/-- the model's memory as it goes on: the class's cells as they are now, its own as they were -/
def frI (I I3 Im : Nat → Nat → Int32) : Prop := (∀ c, c < 56 → Im c = I3 c) ∧ (∀ c, 57 ≤ c → c ≤ 77 → Im c = I c) ∧ (Im 56 1 = I 56 1 ∧ Im 56 2 = I 56 2 ∧ Im 56 3 = I 56 3 ∧ Im 56 13 = I 56 13)
theorem mfin_x {F : Nat → Int32} {c : Nat} (h1 : c ≠ 56) (h2 : c ≠ 57) : mfin Im u F c = Im c := by
  unfold mfin
  rw [vu, if_neg h2, vu, if_neg h1]
theorem mfin_56 {F : Nat → Int32} {k : Nat} (h1 : k ≠ 1) (h2 : k ≠ 35) : mfin Im u F 56 k = Im 56 k := by
  unfold mfin
  rw [vu, if_neg (by decide), vu, if_pos rfl, ud, if_neg h2, ud, if_neg h1]
theorem done_ok (hh : h = 4 ∨ h = 13) (hW : RW I h nr nt y pl) (hG : RNG I h nr nt u nx) (hk : kpd I I1 nx u) (hB : ∀ c, c ≠ 21 → c ≠ 22 → B c = I1 c) (ht : etd B I3) (hm : frI I I3 Im) (hg : ∀ q, 52 ≤ q → q < 468 → G q = mmind (I 57) u q) (hA : RW (va_up (va_up (va_up I 22 (B 22)) 21 (B 21)) 57 G) h nr nt y' pl') : RW (mfin Im u (mturn G nt)) h nr nt y' pl' ∧ RNG (mfin Im u (mturn G nt)) h nr nt (mnext u) ((nx + 1) % 8) := by
  have h16 := hW.1.1.2.2.2.1
  have hx := hG.2.1
  have lo : ∀ c, 4 ≤ c → c ≤ 20 → mfin Im u (mturn G nt) c = I c := fun c c1 c2 => by
    rw [mfin_x (by omega) (by omega), hm.1 c (by omega), ht.1 c (by omega) (by omega), hB c (by omega) (by omega), hk.1 c (by omega) (by omega) (by omega) (by omega)]
  have hi : ∀ c, 58 ≤ c → c ≤ 65 → mfin Im u (mturn G nt) c = I c := fun c c1 c2 => by
    rw [mfin_x (by omega) (by omega), hm.2.1 c (by omega) (by omega)]
  have h2 : mfin Im u (mturn G nt) 56 2 = I 56 2 := (mfin_56 (by decide) (by decide)).trans hm.2.2.2.1
  have h3 : mfin Im u (mturn G nt) 56 3 = I 56 3 := (mfin_56 (by decide) (by decide)).trans hm.2.2.2.2.1
  have b23 : B 23 = I 23 := by rw [hB 23 (by decide) (by decide), hk.1 23 (by decide) (by omega) (by omega) (by omega)]
  constructor
  · refine RW_turn hh hA ⟨⟨h2, h3⟩, fun c c1 c2 => ?_, fun c c1 c2 => ?_⟩ (fun t t1 => ?_) ?_ (fun k k1 k2 k3 k4 => ?_) (fun t t1 => ?_) (fun t t1 => ?_) (fun q hq => ?_)
    · rw [lo c c1 c2, vu, if_neg (by omega), vu, if_neg (by omega), vu, if_neg (by omega)]
    · rw [hi c c1 c2, vu, if_neg (by omega), vu, if_neg (by omega), vu, if_neg (by omega)]
    · rw [mfin_x (by decide) (by decide), hm.1 22 (by decide), ht.1 22 (by decide) (by decide)]
      rfl
    · rw [mfin_x (by decide) (by decide), hm.1 21 (by decide)]
      exact ht.2.1
    · rw [mfin_x (by decide) (by decide), hm.1 21 (by decide)]
      exact ht.2.2.1 k k3 k4
    · rw [mfin_x (by decide) (by decide), hm.1 21 (by decide), ht.2.2.2.1 t t1, b23]
      rfl
    · rw [mfin_x (by decide) (by decide), hm.1 23 (by decide), ht.2.2.2.2 t t1, b23]
      rfl
    · rfl
  · refine RNG_keep hh hW hG hk ⟨⟨h2, h3⟩, lo, hi⟩ (fun c c1 c2 => ?_) ?_ (fun q q1 q2 => ?_)
    · rw [mfin_x (by omega) (by omega), hm.1 c (by omega), ht.1 c (by omega) (by omega), hB c (by omega) (by omega)]
    · unfold mfin
      rw [vu, if_neg (by decide), vu, if_pos rfl, ud, if_neg (by decide), ud, if_pos rfl]
    · show mturn G nt q = _
      rw [mturn_hi h16 q1, hg q q1 q2]
theorem act_places {I' : Nat → Nat → Int32} (hh : h = 4 ∨ h = 13) (hC : RW I h nr nt y pl) (a : hsm I I') (hv : ∀ t, t < nt → pl' t < nr ∨ (10 ≤ pl' t ∧ pl' t < 10 + nt) ∨ pl' t = 30) (he : ∀ t, t < nt → ends pl' t) (g22 : ∀ t, t < 16 → I' 22 t = nI (if t < nt then cv (pl' t) else 23)) (g21 : ∀ k, 2 ≤ k → k < 9 → I' 21 k = I 21 k) (g23 : ∀ t, t < 16 → I' 23 t = I 23 t) (g57 : ∀ q, q < 52 → I' 57 q = if q < nt then nI (pl' q) else I 57 q) : RW I' h nr nt y pl' := by
  have hC0 := hC
  obtain ⟨⟨hW, hY, hH, hS, hD⟩, hO, hL, hLa⟩ := hC
  have h16 := hW.2.2.2.1
  have hs : ∀ t m, t < nt → mst I' t m = mst I t m := fun t m ht => by
    unfold mst
    rw [g57 _ (by omega), if_neg (by omega)]
  have hb : ∀ f m, 2 ≤ f → f < 5 → cB I 21 f nt (fun t => mst I t m) → ∀ t, t < 32 → bt (I' 21 f) t = (decide (t < nt) && mst I' t m) := fun f m f1 f2 g t ht => by
    rw [g21 f f1 (by omega), g t ht]
    by_cases c : t < nt
    · rw [hs t m c]
    · rw [decide_eq_false c, Bool.false_and, Bool.false_and]
  refine RW_mk hh hC0 a (fun t ht => ?_) he ⟨?_, hY.2.1⟩ g22 ⟨hb 2 1 (by decide) (by decide) hS.1.2.1, hb 3 2 (by decide) (by decide) hS.1.2.2.1, hb 4 4 (by decide) (by decide) hS.1.2.2.2⟩ ⟨?_, ?_, ?_, ?_⟩ (fun t ht hl => ?_) (fun t ht => ?_) ?_
  · rw [g57 t (by omega), if_pos ht]
    exact ⟨rfl, hv t ht⟩
  · rw [g57 48 (by decide), if_neg (by omega)]
    exact hY.1
  · rw [g21 5 (by decide) (by decide), g57 48 (by decide), if_neg (by omega)]
    exact hS.2.1
  · rw [g21 6 (by decide) (by decide), g57 49 (by decide), if_neg (by omega)]
    exact hS.2.2.1
  · rw [g21 7 (by decide) (by decide), g57 50 (by decide), if_neg (by omega)]
    exact hS.2.2.2.1
  · rw [g21 8 (by decide) (by decide), g57 51 (by decide), if_neg (by omega)]
    exact hS.2.2.2.2.1
  · rw [g23 t (by omega), g57 _ (by omega), if_neg (by omega)]
    exact hS.2.2.2.2.2 t ht hl
  · rw [hs t 4 ht, g57 _ (by omega), if_neg (by omega)]
    exact hO t ht
  · unfold mLa
    rw [g57 50 (by decide), if_neg (by omega)]
    exact hLa
theorem drp_step {n : Nat} : drp pl y (n + 1) = if pl n = 30 then updN (drp pl y n) n y else drp pl y n := by
  funext q
  by_cases c : pl n = 30
  · rw [if_pos c, updN]
    unfold drp
    by_cases e : q = n
    · subst e
      rw [if_pos ⟨by omega, c⟩, if_pos rfl]
    · rw [if_neg e]
      by_cases g : q < n ∧ pl q = 30
      · rw [if_pos g, if_pos ⟨by omega, g.2⟩]
      · rw [if_neg g, if_neg (fun f => g ⟨by omega, f.2⟩)]
  · rw [if_neg c]
    unfold drp
    by_cases e : q = n
    · subst e
      rw [if_neg (fun f => c f.2), if_neg (fun f => c f.2)]
    · by_cases g : q < n ∧ pl q = 30
      · rw [if_pos g, if_pos ⟨by omega, g.2⟩]
      · rw [if_neg g, if_neg (fun f => g ⟨by omega, f.2⟩)]
theorem drp_ends (hy : y < 10) {t : Nat} (he : ends pl t) : ∀ n, ends (drp pl y n) t
  | 0 => by
    have e : drp pl y 0 = pl := by
      funext q
      unfold drp
      rw [if_neg (fun f => Nat.not_lt_zero _ f.1)]
    rw [e]
    exact he
  | n + 1 => by
    rw [drp_step]
    split
    · exact ends_out (decide_eq_false (by omega)) (drp_ends hy he n)
    · exact drp_ends hy he n
end H1
