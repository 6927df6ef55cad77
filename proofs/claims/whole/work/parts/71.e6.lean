/-! ===== class and model: a turn's end and each act keep the relation ===== -/
theorem or_and0 {v a b : Int32} (h : a &&& b = 0) : (v ||| a) &&& b = v &&& b := by
  apply b_ext
  intro i hi
  have h1 : (bt a i && bt b i) = false := by rw [← b_and, h, b_0]
  rw [b_and, b_or, b_and]
  cases bt v i <;> cases q : bt a i <;> cases q2 : bt b i <;> simp [q, q2] at h1 ⊢
theorem or_and1 {v a : Int32} (h : a ≠ 0) : ¬ (v ||| a) &&& a = 0 := by
  have : (v ||| a) &&& a = a := by
    apply b_ext
    intro i hi
    rw [b_and, b_or]
    cases bt v i <;> cases bt a i <;> rfl
  rw [this]
  exact h
theorem and_an {v a b c : Int32} (h : a &&& b = c) : (v &&& a) &&& b = v &&& c := by rw [Int32.and_assoc, h]
section E6
variable {I I' : Nat → Nat → Int32} {h nr nt y : Nat} {pl : Nat → Nat}
theorem RW_turn (hh : h = 4 ∨ h = 13) (hC : RW I h nr nt y pl) (a : hsm I I') (g22 : ∀ t, t < 16 → I' 22 t = I 22 t) (g216 : I' 21 6 = I 21 6 + 1) (g21 : ∀ k, 2 ≤ k → k < 9 → k ≠ 4 → k ≠ 6 → I' 21 k = I 21 k) (g4 : ∀ t, t < 32 → bt (I' 21 4) t = (bt (I 21 4) t && !(decide (t < 16) && decide (I 23 t - 1 ≤ 0)))) (g23 : ∀ t, t < 16 → I' 23 t = if bt (I 21 4) t = true then I 23 t - 1 else I 23 t) (g57 : ∀ q, q < 52 → I' 57 q = mturn (I 57) nt q) : RW I' h nr nt y pl := by
  have hC0 := hC
  obtain ⟨⟨hW, hY, hH, hS, hD⟩, hO, hL, hLa⟩ := hC
  have h16 := hW.2.2.2.1
  have lo : ∀ q, q < 52 → q ≠ 49 → (q < 16 ∨ 48 ≤ q) → mturn (I 57) nt q = I 57 q := fun q hq h1 h2 => by
    unfold mturn
    rw [if_neg h1, if_neg (by omega), if_neg (by omega)]
  have v49 : mturn (I 57) nt 49 = I 57 49 + 1 := rfl
  have vs : ∀ t, t < nt → mturn (I 57) nt (16 + t) = if mst I t 4 = true then I 57 (16 + t) &&& (if I 57 (32 + t) - 1 = 0 then -5 else -1) else I 57 (16 + t) := fun t ht => by
    unfold mturn mst
    rw [if_neg (by omega), if_neg (by omega), show 16 + t + 16 = 32 + t by omega]
    by_cases c : I 57 (16 + t) &&& 4 = 0
    · have e : ¬ (!decide (I 57 (16 + t) &&& 4 = 0)) = true := by rw [decide_eq_true c]; decide
      rw [if_neg (fun q => q.2.2 c), if_neg e]
    · have e : (!decide (I 57 (16 + t) &&& 4 = 0)) = true := by rw [decide_eq_false c]; rfl
      rw [if_pos ⟨by omega, by omega, c⟩, if_pos e]
  have vo : ∀ t, t < nt → mturn (I 57) nt (32 + t) = if mst I t 4 = true then I 57 (32 + t) - 1 else I 57 (32 + t) := fun t ht => by
    unfold mturn mst
    rw [if_neg (by omega), show 32 + t - 16 = 16 + t by omega]
    by_cases c : I 57 (16 + t) &&& 4 = 0
    · rw [if_neg (fun q => q.2.2 c), if_neg (by omega), decide_eq_true c, if_neg (by decide)]
    · rw [if_pos ⟨by omega, by omega, c⟩, decide_eq_false c, if_pos (by decide)]
  have on : ∀ t, t < nt → mst I t 4 = true → ∃ o, o < 99 ∧ I 57 (32 + t) = nI (o + 1) ∧ I 57 (32 + t) - 1 = nI o ∧ I 23 t = nI (o + 1) ∧ mtr I t 16 = true := fun t ht q => by
    have hl := (hO t ht).1 q
    obtain ⟨o, o1, o2, o3⟩ := (hO t ht).2 hl
    have o4 := o3 q
    refine ⟨o - 1, by omega, by rw [o2, show o - 1 + 1 = o by omega], ?_, ?_, hl⟩
    · rw [o2]
      exact pk_sub (a := o) (b := 1) (by omega)
    · rw [hS.2.2.2.2.2 t ht hl, o2, show o - 1 + 1 = o by omega]
  have ms : ∀ t m, t < nt → (m = 1 ∨ m = 2) → mst I' t m = mst I t m := fun t m ht hm => by
    have e := g57 (16 + t) (by omega)
    rw [vs t ht] at e
    unfold mst
    rw [e]
    have e5 : (-5 : Int32) &&& m = m := by rcases hm with rfl | rfl <;> decide
    have e1 : (-1 : Int32) &&& m = m := by rcases hm with rfl | rfl <;> decide
    by_cases c : mst I t 4 = true
    · rw [if_pos c]
      by_cases c2 : I 57 (32 + t) - 1 = 0
      · rw [if_pos c2, and_an e5]
      · rw [if_neg c2, and_an e1]
    · rw [if_neg c]
  have m4 : ∀ t, t < nt → mst I' t 4 = (mst I t 4 && !decide (I 57 (32 + t) - 1 = 0)) := fun t ht => by
    have e := g57 (16 + t) (by omega)
    rw [vs t ht] at e
    by_cases c : mst I t 4 = true
    · rw [if_pos c] at e
      rw [c, Bool.true_and]
      by_cases c2 : I 57 (32 + t) - 1 = 0
      · rw [if_pos c2] at e
        unfold mst
        rw [e, and_an (show (-5 : Int32) &&& 4 = 0 by decide), Int32.and_zero, decide_eq_true c2]
        rfl
      · rw [if_neg c2] at e
        rw [decide_eq_false c2]
        unfold mst at c ⊢
        rw [e, and_an (show (-1 : Int32) &&& 4 = 4 by decide)]
        exact c
    · rw [if_neg c] at e
      rw [show mst I t 4 = false by simpa using c, Bool.false_and]
      unfold mst at c ⊢
      rw [e]
      simpa using c
  have hb : ∀ f m, (m = 1 ∨ m = 2) → 2 ≤ f → f < 4 → cB I 21 f nt (fun t => mst I t m) → ∀ t, t < 32 → bt (I' 21 f) t = (decide (t < nt) && mst I' t m) := fun f m hm f1 f2 g t ht => by
    rw [g21 f f1 (by omega) (by omega) (by omega), g t ht]
    by_cases c : t < nt
    · rw [ms t m c hm]
    · rw [decide_eq_false c, Bool.false_and, Bool.false_and]
  refine RW_mk hh hC0 a (fun t ht => ?_) hW.2.2.2.2.2 ⟨?_, hY.2.1⟩ (fun t ht => ?_) ⟨hb 2 1 (Or.inl rfl) (by decide) (by decide) hS.1.2.1, hb 3 2 (Or.inr rfl) (by decide) (by decide) hS.1.2.2.1, fun t ht => ?_⟩ ⟨?_, ?_, ?_, ?_⟩ (fun t ht hl => ?_) (fun t ht => ?_) ?_
  · rw [g57 t (by omega), lo t (by omega) (by omega) (by omega)]
    exact hW.2.2.2.2.1 t ht
  · rw [g57 48 (by decide), lo 48 (by decide) (by decide) (by decide)]
    exact hY.1
  · rw [g22 t ht]
    exact hS.1.1 t ht
  · rw [g4 t ht, hS.1.2.2.2 t ht]
    by_cases c : t < nt
    · rw [m4 t c, decide_eq_true c, Bool.true_and, Bool.true_and, decide_eq_true (show t < 16 by omega), Bool.true_and]
      show (mst I t 4 && _) = _
      cases q : mst I t 4 with
      | false => rfl
      | true =>
        obtain ⟨o, o1, o2, o3, o4, -⟩ := on t c q
        rw [o3, o4, show nI (o + 1) - 1 = nI o from pk_sub (a := o + 1) (b := 1) (by omega)]
        have : (nI o ≤ 0) ↔ (nI o = 0) := by
          rw [show (nI o = 0) = (nI o = nI 0) from rfl, nI_eq (by omega) (by omega), Int32.le_iff_toInt_le, nI_toInt (by omega), show (0 : Int32).toInt = 0 from rfl]
          omega
        rw [show decide (nI o ≤ 0) = decide (nI o = 0) from decide_eq_decide.mpr this]
    · rw [decide_eq_false c, Bool.false_and, Bool.false_and, Bool.false_and]
  · rw [g21 5 (by decide) (by decide) (by decide) (by decide), g57 48 (by decide), lo 48 (by decide) (by decide) (by decide)]
    exact hS.2.1
  · rw [g216, g57 49 (by decide), v49, hS.2.2.1]
  · rw [g21 7 (by decide) (by decide) (by decide) (by decide), g57 50 (by decide), lo 50 (by decide) (by decide) (by decide)]
    exact hS.2.2.2.1
  · rw [g21 8 (by decide) (by decide) (by decide) (by decide), g57 51 (by decide), lo 51 (by decide) (by decide) (by decide)]
    exact hS.2.2.2.2.1
  · rw [g23 t (by omega), g57 _ (by omega), vo t ht, hS.1.2.2.2 t (by omega), decide_eq_true ht, Bool.true_and, hS.2.2.2.2.2 t ht hl]
  · rw [m4 t ht, g57 _ (by omega), vo t ht]
    cases q : mst I t 4 with
    | false =>
      rw [Bool.false_and, if_neg (by decide)]
      refine ⟨fun e => (by cases e), fun hl => ?_⟩
      obtain ⟨o, o1, o2, -⟩ := (hO t ht).2 hl
      exact ⟨o, o1, o2, fun e => (by cases e)⟩
    | true =>
      obtain ⟨o, o1, o2, o3, o4, o5⟩ := on t ht q
      rw [Bool.true_and, if_pos rfl, o3]
      refine ⟨fun _ => o5, fun _ => ⟨o, by omega, rfl, fun e => ?_⟩⟩
      rcases Nat.eq_zero_or_pos o with c | c
      · subst c
        exact absurd e (by decide)
      · exact c
  · unfold mLa
    rw [g57 50 (by decide), lo 50 (by decide) (by decide) (by decide)]
    exact hLa
theorem RW_act (hh : h = 4 ∨ h = 13) (hC : RW I h nr nt y pl) {a x z : Nat} (ha : a < 12) (hx : x < nt) (hz : of2 a = true → z < nt) (hw : mwhy I pl nt a x z = 0) (hs : hsm I I') (g22 : ∀ t, t < 16 → I' 22 t = pfP I a x z t) (g21 : ∀ k, 2 ≤ k → k < 9 → I' 21 k = upd (pfT I a x (nI (ct (fun t => pl t == 10 + x) nt))) 7 (nI x) k) (g23 : ∀ t, t < 16 → I' 23 t = I 23 t) (g57 : ∀ q, q < 52 → I' 57 q = upd (mdoes (I 57) pl nt a x z) 50 (nI x) q) : ∃ y' pl', RW I' h nr nt y' pl' := by
  have hC0 := hC
  obtain ⟨⟨hW, hY, hH, hS, hD⟩, hO, hL, hLa⟩ := hC
  have h16 := hW.2.2.2.1
  have hends := hW.2.2.2.2.2
  have o30 : ∀ t, t < nt → ends (updN pl x 30) t := fun t ht => ends_out (by decide) (hends t ht)
  have oy : ∀ t, t < nt → ends (updN pl x y) t := fun t ht => ends_out (by
    have := hY.2.1
    have := hW.2.2.1
    exact decide_eq_false (by omega)) (hends t ht)
  have mb : ∀ t, t < 32 → bt (I 21 2) t = if t = x then mst I x 1 else bt (I 21 2) t := fun t ht => by
    by_cases e : t = x
    · subst e; rw [if_pos rfl, hS.1.2.1 t ht, decide_eq_true hx, Bool.true_and]
    · rw [if_neg e]
  have mb3 : ∀ t, t < 32 → bt (I 21 3) t = if t = x then mst I x 2 else bt (I 21 3) t := fun t ht => by
    by_cases e : t = x
    · subst e; rw [if_pos rfl, hS.1.2.2.1 t ht, decide_eq_true hx, Bool.true_and]
    · rw [if_neg e]
  have mb4 : ∀ t, t < 32 → bt (I 21 4) t = if t = x then mst I x 4 else bt (I 21 4) t := fun t ht => by
    by_cases e : t = x
    · subst e; rw [if_pos rfl, hS.1.2.2.2 t ht, decide_eq_true hx, Bool.true_and]
    · rw [if_neg e]
  have lamp : mst I x 4 = true → mtr I x 16 = true ∧ ∃ o, o < 100 ∧ I 57 (32 + x) = nI o ∧ 0 < o := fun q => by
    have hl := (hO x hx).1 q
    obtain ⟨o, o1, o2, o3⟩ := (hO x hx).2 hl
    exact ⟨hl, o, o1, o2, o3 q⟩
  have st : ∀ t, t < 32 → ∀ v, bt (v ||| (1 <<< (nI x &&& 31))) t = if t = x then true else bt v t := fun t ht v => by
    rw [bt_set (by omega) ht]
    by_cases e : t = x
    · rw [if_pos e, decide_eq_true e, Bool.or_true]
    · rw [if_neg e, decide_eq_false e, Bool.or_false]
  have cl : ∀ t, t < 32 → ∀ v, bt (v &&& ((1 <<< (nI x &&& 31)) ^^^ -1)) t = if t = x then false else bt v t := fun t ht v => by
    rw [bt_clr (by omega) ht]
    by_cases e : t = x
    · rw [if_pos e, decide_eq_true e, Bool.not_true, Bool.and_false]
    · rw [if_neg e, decide_eq_false e, Bool.not_false, Bool.and_true]
  have T7 : ∀ v k, 2 ≤ k → k < 9 → (upd (I 21) 7 v) k = if k = 7 then v else I 21 k := fun v k _ _ => ud _ _ _ _
  rcases (by omega : a = 0 ∨ a = 1 ∨ a = 2 ∨ a = 3 ∨ a = 4 ∨ a = 5 ∨ a = 6 ∨ a = 7 ∨ a = 8 ∨ a = 9 ∨ a = 10 ∨ a = 11) with rfl | rfl | rfl | rfl | rfl | rfl | rfl | rfl | rfl | rfl | rfl | rfl
  · exact ⟨y, _, act_move hh hC0 hs hx (v := 30) (Or.inr (Or.inr rfl)) o30 (fun t ht => (g22 t ht).trans (ud _ _ _ _)) (fun k k1 k2 => (g21 k k1 k2).trans (ud _ _ _ _)) g23 (fun q hq => by
      rw [g57 q hq, ud]
      by_cases e : q = 50
      · rw [if_pos e, if_pos e]
      · rw [if_neg e, if_neg e]
        exact ud _ _ _ _)⟩
  · refine ⟨y, _, act_move hh hC0 hs hx (v := y) (Or.inl hY.2.1) oy (fun t ht => ?_) (fun k k1 k2 => (g21 k k1 k2).trans (ud _ _ _ _)) g23 (fun q hq => ?_)⟩
    · rw [g22 t ht]
      show upd (I 22) x (I 21 5) t = _
      rw [ud, hS.2.1, hY.1, cv, if_pos (show y < 10 by have := hY.2.1; have := hW.2.2.1; omega)]
    · rw [g57 q hq, ud]
      by_cases e : q = 50
      · rw [if_pos e, if_pos e]
      · rw [if_neg e, if_neg e]
        show upd (I 57) x (I 57 48) q = _
        rw [ud, hY.1]
  · have hz := hz rfl
    have hw2 : mput I pl nt x z 1 = 0 := hw
    have hno : ¬ (x = z ∨ wi pl z x = true) := fun c => by
      unfold mput at hw2
      rw [if_pos c] at hw2
      exact absurd hw2 (by decide)
    refine ⟨y, _, act_move hh hC0 hs hx (v := 10 + z) (Or.inr (Or.inl ⟨by omega, by omega⟩)) (fun t ht => ends_in (by omega) (fun e => hno (Or.inl e)) (by cases q : wi pl z x with | false => rfl | true => exact absurd (Or.inr q) hno) (hends z hz) (hends t ht)) (fun t ht => ?_) (fun k k1 k2 => (g21 k k1 k2).trans (ud _ _ _ _)) g23 (fun q hq => ?_)⟩
    · rw [g22 t ht]
      show upd (I 22) x (nI (6 + z)) t = _
      rw [ud, cv, if_neg (show ¬ 10 + z < 10 by omega), if_neg (show ¬ 10 + z = 30 by omega), show 10 + z - 4 = 6 + z by omega]
    · rw [g57 q hq, ud]
      by_cases e : q = 50
      · rw [if_pos e, if_pos e]
      · rw [if_neg e, if_neg e]
        exact ud _ _ _ _
  · have hz := hz rfl
    have hw2 : mput I pl nt x z 2 = 0 := hw
    have hno : ¬ (x = z ∨ wi pl z x = true) := fun c => by
      unfold mput at hw2
      rw [if_pos c] at hw2
      exact absurd hw2 (by decide)
    refine ⟨y, _, act_move hh hC0 hs hx (v := 10 + z) (Or.inr (Or.inl ⟨by omega, by omega⟩)) (fun t ht => ends_in (by omega) (fun e => hno (Or.inl e)) (by cases q : wi pl z x with | false => rfl | true => exact absurd (Or.inr q) hno) (hends z hz) (hends t ht)) (fun t ht => ?_) (fun k k1 k2 => (g21 k k1 k2).trans (ud _ _ _ _)) g23 (fun q hq => ?_)⟩
    · rw [g22 t ht]
      show upd (I 22) x (nI (6 + z)) t = _
      rw [ud, cv, if_neg (show ¬ 10 + z < 10 by omega), if_neg (show ¬ 10 + z = 30 by omega), show 10 + z - 4 = 6 + z by omega]
    · rw [g57 q hq, ud]
      by_cases e : q = 50
      · rw [if_pos e, if_pos e]
      · rw [if_neg e, if_neg e]
        exact ud _ _ _ _
  · refine ⟨y, pl, act_bits hh hC0 hs hx (w := I 57 (16 + x) ||| 1) g22 (fun t ht => ?_) (fun t ht => ?_) (fun t ht => ?_) (fun k k1 k2 => ?_) g23 (fun q hq => ?_) (fun q => ?_)⟩
    · rw [g21 2 (by decide) (by decide)]
      show bt (I 21 2 ||| _) t = _
      rw [st t ht, decide_eq_false (or_and1 (by decide))]
      rfl
    · rw [g21 3 (by decide) (by decide), or_and0 (by decide)]
      exact mb3 t ht
    · rw [g21 4 (by decide) (by decide), or_and0 (by decide)]
      exact mb4 t ht
    · rw [g21 k (by omega) k2, ud]
      by_cases e : k = 7
      · rw [if_pos e, if_pos e]
      · rw [if_neg e, if_neg e]
        show upd (I 21) 2 _ k = _
        rw [ud, if_neg (by omega)]
    · rw [g57 q hq, ud]
      by_cases e : q = 50
      · rw [if_pos e, if_pos e]
      · rw [if_neg e, if_neg e]
        exact ud _ _ _ _
    · rw [or_and0 (by decide)] at q
      exact lamp q
  · refine ⟨y, pl, act_bits hh hC0 hs hx (w := I 57 (16 + x) &&& -2) g22 (fun t ht => ?_) (fun t ht => ?_) (fun t ht => ?_) (fun k k1 k2 => ?_) g23 (fun q hq => ?_) (fun q => ?_)⟩
    · rw [g21 2 (by decide) (by decide)]
      show bt (I 21 2 &&& _) t = _
      rw [cl t ht, and_an (show (-2 : Int32) &&& 1 = 0 by decide), Int32.and_zero]
      rfl
    · rw [g21 3 (by decide) (by decide), and_an (show (-2 : Int32) &&& 2 = 2 by decide)]
      exact mb3 t ht
    · rw [g21 4 (by decide) (by decide), and_an (show (-2 : Int32) &&& 4 = 4 by decide)]
      exact mb4 t ht
    · rw [g21 k (by omega) k2, ud]
      by_cases e : k = 7
      · rw [if_pos e, if_pos e]
      · rw [if_neg e, if_neg e]
        show upd (I 21) 2 _ k = _
        rw [ud, if_neg (by omega)]
    · rw [g57 q hq, ud]
      by_cases e : q = 50
      · rw [if_pos e, if_pos e]
      · rw [if_neg e, if_neg e]
        exact ud _ _ _ _
    · rw [and_an (show (-2 : Int32) &&& 4 = 4 by decide)] at q
      exact lamp q
  · refine ⟨y, pl, act_bits hh hC0 hs hx (w := I 57 (16 + x) ||| 2) g22 (fun t ht => ?_) (fun t ht => ?_) (fun t ht => ?_) (fun k k1 k2 => ?_) g23 (fun q hq => ?_) (fun q => ?_)⟩
    · rw [g21 2 (by decide) (by decide), or_and0 (by decide)]
      exact mb t ht
    · rw [g21 3 (by decide) (by decide)]
      show bt (I 21 3 ||| _) t = _
      rw [st t ht, decide_eq_false (or_and1 (by decide))]
      rfl
    · rw [g21 4 (by decide) (by decide), or_and0 (by decide)]
      exact mb4 t ht
    · rw [g21 k (by omega) k2, ud]
      by_cases e : k = 7
      · rw [if_pos e, if_pos e]
      · rw [if_neg e, if_neg e]
        show upd (I 21) 3 _ k = _
        rw [ud, if_neg (by omega)]
    · rw [g57 q hq, ud]
      by_cases e : q = 50
      · rw [if_pos e, if_pos e]
      · rw [if_neg e, if_neg e]
        exact ud _ _ _ _
    · rw [or_and0 (by decide)] at q
      exact lamp q
  · refine ⟨y, pl, act_bits hh hC0 hs hx (w := I 57 (16 + x) &&& -3) g22 (fun t ht => ?_) (fun t ht => ?_) (fun t ht => ?_) (fun k k1 k2 => ?_) g23 (fun q hq => ?_) (fun q => ?_)⟩
    · rw [g21 2 (by decide) (by decide), and_an (show (-3 : Int32) &&& 1 = 1 by decide)]
      exact mb t ht
    · rw [g21 3 (by decide) (by decide)]
      show bt (I 21 3 &&& _) t = _
      rw [cl t ht, and_an (show (-3 : Int32) &&& 2 = 0 by decide), Int32.and_zero]
      rfl
    · rw [g21 4 (by decide) (by decide), and_an (show (-3 : Int32) &&& 4 = 4 by decide)]
      exact mb4 t ht
    · rw [g21 k (by omega) k2, ud]
      by_cases e : k = 7
      · rw [if_pos e, if_pos e]
      · rw [if_neg e, if_neg e]
        show upd (I 21) 3 _ k = _
        rw [ud, if_neg (by omega)]
    · rw [g57 q hq, ud]
      by_cases e : q = 50
      · rw [if_pos e, if_pos e]
      · rw [if_neg e, if_neg e]
        exact ud _ _ _ _
    · rw [and_an (show (-3 : Int32) &&& 4 = 4 by decide)] at q
      exact lamp q
  · refine ⟨y, pl, act_bits hh hC0 hs hx (w := I 57 (16 + x) ||| 4) g22 (fun t ht => ?_) (fun t ht => ?_) (fun t ht => ?_) (fun k k1 k2 => ?_) g23 (fun q hq => ?_) (fun _ => ?_)⟩
    · rw [g21 2 (by decide) (by decide), or_and0 (by decide)]
      exact mb t ht
    · rw [g21 3 (by decide) (by decide), or_and0 (by decide)]
      exact mb3 t ht
    · rw [g21 4 (by decide) (by decide)]
      show bt (I 21 4 ||| _) t = _
      rw [st t ht, decide_eq_false (or_and1 (by decide))]
      rfl
    · rw [g21 k (by omega) k2, ud]
      by_cases e : k = 7
      · rw [if_pos e, if_pos e]
      · rw [if_neg e, if_neg e]
        show upd (I 21) 4 _ k = _
        rw [ud, if_neg (by omega)]
    · rw [g57 q hq, ud]
      by_cases e : q = 50
      · rw [if_pos e, if_pos e]
      · rw [if_neg e, if_neg e]
        exact ud _ _ _ _
    · have hw2 : (if mtr I x 16 = false then 8 else if mst I x 4 = true then 9 else if pl x ≠ 30 then 13 else if I 57 (32 + x) = 0 then 15 else 0) = (0 : Int32) := hw
      cases q1 : mtr I x 16 with
      | false =>
        rw [if_pos q1] at hw2
        exact absurd hw2 (by decide)
      | true =>
        obtain ⟨o, o1, o2, -⟩ := (hO x hx).2 q1
        refine ⟨rfl, o, o1, o2, ?_⟩
        rcases Nat.eq_zero_or_pos o with c | c
        · exfalso
          subst c
          have e0 : I 57 (32 + x) = 0 := o2
          rw [if_neg (by rw [q1]; decide), if_pos e0] at hw2
          split at hw2
          · exact absurd hw2 (by decide)
          · split at hw2 <;> exact absurd hw2 (by decide)
        · exact c
  · refine ⟨y, pl, act_bits hh hC0 hs hx (w := I 57 (16 + x) &&& -5) g22 (fun t ht => ?_) (fun t ht => ?_) (fun t ht => ?_) (fun k k1 k2 => ?_) g23 (fun q hq => ?_) (fun q => ?_)⟩
    · rw [g21 2 (by decide) (by decide), and_an (show (-5 : Int32) &&& 1 = 1 by decide)]
      exact mb t ht
    · rw [g21 3 (by decide) (by decide), and_an (show (-5 : Int32) &&& 2 = 2 by decide)]
      exact mb3 t ht
    · rw [g21 4 (by decide) (by decide)]
      show bt (I 21 4 &&& _) t = _
      rw [cl t ht, and_an (show (-5 : Int32) &&& 4 = 0 by decide), Int32.and_zero]
      rfl
    · rw [g21 k (by omega) k2, ud]
      by_cases e : k = 7
      · rw [if_pos e, if_pos e]
      · rw [if_neg e, if_neg e]
        show upd (I 21) 4 _ k = _
        rw [ud, if_neg (by omega)]
    · rw [g57 q hq, ud]
      by_cases e : q = 50
      · rw [if_pos e, if_pos e]
      · rw [if_neg e, if_neg e]
        exact ud _ _ _ _
    · rw [and_an (show (-5 : Int32) &&& 4 = 0 by decide), Int32.and_zero] at q
      exact absurd q (by decide)
  · refine ⟨y, pl, act_told hh hC0 hs (w := nI x) (v := nI (ct (fun t => pl t == 10 + x) nt)) (Or.inr ⟨x, hx, rfl⟩) g22 (fun k k1 k2 => ?_) g23 (fun q hq => ?_)⟩
    · rw [g21 k k1 k2, ud]
      by_cases e : k = 7
      · rw [if_pos e, if_pos e]
      · rw [if_neg e, if_neg e]
        exact ud _ _ _ _
    · rw [g57 q hq, ud]
      by_cases e : q = 50
      · rw [if_pos e, if_pos e]
      · rw [if_neg e, if_neg e]
        show upd (I 57) 51 (mman pl nt (10 + x)) q = _
        have em : mman pl nt (10 + x) = nI (ct (fun t => pl t == 10 + x) nt) := by
          unfold mman
          rw [← sm_ct]
          exact sm_cong (fun k _ => by by_cases e : pl k = 10 + x <;> simp [e, b2i])
        rw [ud, em]
  · exact ⟨y, _, act_move hh hC0 hs hx (v := 30) (Or.inr (Or.inr rfl)) o30 (fun t ht => (g22 t ht).trans (ud _ _ _ _)) (fun k k1 k2 => (g21 k k1 k2).trans (ud _ _ _ _)) g23 (fun q hq => by
      rw [g57 q hq, ud]
      by_cases e : q = 50
      · rw [if_pos e, if_pos e]
      · rw [if_neg e, if_neg e]
        exact ud _ _ _ _)⟩
end E6
