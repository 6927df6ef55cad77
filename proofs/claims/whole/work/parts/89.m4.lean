/-! ===== a run in a memory whose end is cut off ===== -/
def bigR (R : Nat → Nat → Option Nat) (k j : Nat) : Option Nat := if k < 56 then R k j else tR0 k j
abbrev sB (I : Nat → Nat → Int32) (J : Nat → Nat → Int64) (R : Nat → Nat → Option Nat) (c : Nat × Nat) : tm_St := ((tL, I, J, bigR R), c)
abbrev sA (I : Nat → Nat → Int32) (J : Nat → Nat → Int64) (R : Nat → Nat → Option Nat) (c : Nat × Nat) : tm_St := ((tL.take 56, I, J, R), c)
def okv (v : Value) : Prop := ∀ a : Nat, v = .ref a → a < 56 ∨ 1000 ≤ a
def okl (l : List Value) : Prop := ∀ v, v ∈ l → okv v
def okR (R : Nat → Nat → Option Nat) : Prop := (∀ k j a, k < 56 → R k j = some a → a < 56) ∧ ∀ k j, 56 ≤ k → R k j = none
theorem okv_int {x : Int32} : okv (.int x) := fun _ h => by cases h
theorem okv_long {x : Int64} : okv (.long x) := fun _ h => by cases h
theorem okv_ret {x : Nat} : okv (.retAddr x) := fun _ h => by cases h
theorem okv_big {a : Nat} (h : 1000 ≤ a) : okv (.ref a) := fun b e => by cases e; exact Or.inr h
theorem okl_nil : okl [] := fun _ h => by cases h
theorem okl_cons {v : Value} {l : List Value} (h1 : okv v) (h2 : okl l) : okl (v :: l) := fun w hw => by
  rcases List.mem_cons.mp hw with e | e
  · rw [e]; exact h1
  · exact h2 w e
theorem okl_tl {v : Value} {l : List Value} (h : okl (v :: l)) : okl l := fun w hw => h w (List.mem_cons_of_mem _ hw)
theorem okl_hd {v : Value} {l : List Value} (h : okl (v :: l)) : okv v := h v List.mem_cons_self
theorem okl_set {l : List Value} (h : okl l) {v : Value} (hv : okv v) : ∀ i, okl (l.set i v) := fun i w hw => by
  rcases List.mem_or_eq_of_mem_set hw with e | e
  · exact h w e
  · rw [e]; exact hv
theorem okl_app {l m : List Value} (h1 : okl l) (h2 : okl m) : okl (l ++ m) := fun w hw => by
  rcases List.mem_append.mp hw with e | e
  · exact h1 w e
  · exact h2 w e
theorem okl_take {l : List Value} (h : okl l) (n : Nat) : okl (l.take n) := fun w hw => h w (List.mem_of_mem_take hw)
theorem okl_drop {l : List Value} (h : okl l) (n : Nat) : okl (l.drop n) := fun w hw => h w (List.mem_of_mem_drop hw)
theorem okl_rev {l : List Value} (h : okl l) : okl l.reverse := fun w hw => h w (List.mem_reverse.mp hw)
theorem okl_exp : ∀ {l : List Value}, okl l → okl (tm_exp l)
  | [], _ => okl_nil
  | v :: l, h => by
    rw [tm_exp]
    split
    · exact okl_cons (okl_hd h) (okl_cons okv_ret (okl_exp (okl_tl h)))
    · exact okl_cons (okl_hd h) (okl_exp (okl_tl h))
theorem okl_ent {k : Nat} {l : List Value} (h : okl l) : okl (tm_ent k l) := by
  unfold tm_ent
  refine okl_app (okl_exp h) (fun w hw => ?_)
  rw [(List.mem_replicate.mp hw).2]
  exact okv_ret
theorem ok_get {o : Nat} (h : okv (.ref o)) : (tL.take 56)[o]? = tL[o]? ∧ ∀ q, tL[o]? = some q → o < 56 := by
  rcases h o rfl with c | c
  · exact ⟨by rw [List.getElem?_take, if_pos c], fun _ _ => c⟩
  · have : ∀ q, tL[o]? = some q → False := fun q hq => by
      have h1 := (List.getElem?_eq_some_iff.mp hq).1
      have h2 : tL.length = 84 := by decide
      omega
    refine ⟨?_, fun q hq => (this q hq).elim⟩
    rw [List.getElem?_take, if_neg (by omega)]
    cases hq : tL[o]? with
    | none => rfl
    | some q => exact (this q hq).elim
theorem ok_lt {x : Nat} (h : okv (.ref x)) (hx : x < tL.length) : x < 56 := by
  have h2 : tL.length = 84 := by decide
  rcases h x rfl with g | g
  · exact g
  · omega
theorem big_lo {R : Nat → Nat → Option Nat} {o : Nat} (h : o < 56) : bigR R o = R o := by
  funext j
  exact if_pos h
theorem big_up {R : Nat → Nat → Option Nat} {o : Nat} (h : o < 56) (G : Nat → Option Nat) : va_up (bigR R) o G = bigR (va_up R o G) := by
  funext k j
  unfold bigR
  rw [vu]
  by_cases e : k = o
  · rw [if_pos e, if_pos (by omega), vu, if_pos e]
  · rw [if_neg e]
    by_cases e2 : k < 56
    · rw [if_pos e2, if_pos e2, vu, if_neg e]
    · rw [if_neg e2, if_neg e2]
theorem okR_up {R : Nat → Nat → Option Nat} (hR : okR R) {o x b : Nat} (ho : o < 56) (hx : x < 56) : okR (va_up R o (va_up (R o) b (some x))) := by
  refine ⟨fun k j y hk hy => ?_, fun k j hk => ?_⟩
  · rw [vu] at hy
    by_cases e : k = o
    · rw [if_pos e, vu] at hy
      by_cases e3 : j = b
      · rw [if_pos e3] at hy
        cases hy
        exact hx
      · rw [if_neg e3] at hy
        exact hR.1 o j y ho hy
    · rw [if_neg e] at hy
      exact hR.1 k j y hk hy
  · rw [vu, if_neg (by omega)]
    exact hR.2 k j hk
def FR (x y : Option tm_Out) : Prop := ∀ o, x = some o → ∃ I J R c, o.2.2.2 = sB I J R c ∧ y = some (o.1, o.2.1, o.2.2.1, sA I J R c) ∧ okl o.2.1 ∧ okl o.2.2.1 ∧ okR R
theorem FR_none {y : Option tm_Out} : FR none y := fun _ h => by cases h
section M4
variable {E : tm_Env} {I : Nat → Nat → Int32} {J : Nat → Nat → Int64} {R : Nat → Nat → Option Nat} {c : Nat × Nat} {ls st : List Value} {pc : Nat}
theorem FR_nx (hl : okl ls) (hs : okl st) (hR : okR R) : FR (tm_nx pc ls st (sB I J R c)) (tm_nx pc ls st (sA I J R c)) := fun o h => by
  cases h
  exact ⟨I, J, R, c, rfl, rfl, hl, hs, hR⟩
theorem FR_ite {p : Prop} [Decidable p] {x y : Option tm_Out} (h : p → FR x y) : FR (if p then x else none) (if p then y else none) := by
  by_cases q : p
  · rw [if_pos q, if_pos q]; exact h q
  · rw [if_neg q]; exact FR_none
theorem FR_ite2 {p : Prop} [Decidable p] {x y x' y' : Option tm_Out} (h : p → FR x y) (h' : ¬ p → FR x' y') : FR (if p then x else x') (if p then y else y') := by
  by_cases q : p
  · rw [if_pos q, if_pos q]; exact h q
  · rw [if_neg q, if_neg q]; exact h' q
theorem FR_itq {p q : Prop} [Decidable p] [Decidable q] {x y : Option tm_Out} (hpq : p → q) (h : p → FR x y) : FR (if p then x else none) (if q then y else none) := by
  by_cases g : p
  · rw [if_pos g, if_pos (hpq g)]; exact h g
  · rw [if_neg g]; exact FR_none
theorem fr_load {i ty : Nat} (hl : okl ls) (hs : okl st) (hR : okR R) : FR (tm_load pc i ty ls st (sB I J R c)) (tm_load pc i ty ls st (sA I J R c)) := by
  unfold tm_load
  cases h : ls[i]? with
  | none => exact FR_none
  | some v =>
    have hv : okv v := hl v (List.mem_of_getElem? h)
    cases v <;> first
      | exact FR_none
      | exact FR_ite (fun _ => FR_nx hl (okl_cons hv hs) hR)
theorem fr_store {k i ty : Nat} (hl : okl ls) (hs : okl st) (hR : okR R) : FR (tm_store k pc i ty ls st (sB I J R c)) (tm_store k pc i ty ls st (sA I J R c)) := by
  unfold tm_store
  rcases st with _ | ⟨v, r⟩
  · exact FR_none
  · cases v <;> first
      | exact FR_none
      | exact FR_ite (fun _ => FR_nx (okl_set hl (okl_hd hs) _) (okl_tl hs) hR)
      | exact FR_ite (fun _ => FR_nx (okl_set (okl_set hl (okl_hd hs) _) okv_ret _) (okl_tl hs) hR)
theorem fr_op2 {f : Int32 → Int32 → Option Int32} (hl : okl ls) (hs : okl st) (hR : okR R) : FR (tm_op2 pc f ls st (sB I J R c)) (tm_op2 pc f ls st (sA I J R c)) := by
  unfold tm_op2
  split
  · rename_i y x r
    cases f x y with
    | none => exact FR_none
    | some z => exact FR_nx hl (okl_cons okv_int (okl_tl (okl_tl hs))) hR
  · exact FR_none
theorem fr_op2l {f : Int64 → Int64 → Option Int64} (hl : okl ls) (hs : okl st) (hR : okR R) : FR (tm_op2l pc f ls st (sB I J R c)) (tm_op2l pc f ls st (sA I J R c)) := by
  unfold tm_op2l
  split
  · rename_i y x r
    cases f x y with
    | none => exact FR_none
    | some z => exact FR_nx hl (okl_cons okv_long (okl_tl (okl_tl hs))) hR
  · exact FR_none
theorem fr_op1 {f : Int32 → Int32} (hl : okl ls) (hs : okl st) (hR : okR R) : FR (tm_op1 pc f ls st (sB I J R c)) (tm_op1 pc f ls st (sA I J R c)) := by
  unfold tm_op1
  split
  · exact FR_nx hl (okl_cons okv_int (okl_tl hs)) hR
  · exact FR_none
theorem fr_if {t : Nat} {b : Bool} (hl : okl ls) (hs : okl st) (hR : okR R) : FR (tm_if t pc b ls st (sB I J R c)) (tm_if t pc b ls st (sA I J R c)) := by
  unfold tm_if
  exact FR_ite2 (fun _ => FR_nx hl hs hR) (fun _ => FR_nx hl hs hR)
theorem fr_getf {a b d : Nat} (hl : okl ls) (hs : okl st) (hR : okR R) : FR (tm_getf pc a b d ls st (sB I J R c)) (tm_getf pc a b d ls st (sA I J R c)) := by
  unfold tm_getf
  split
  · rename_i o r
    obtain ⟨e1, e2⟩ := ok_get (okl_hd hs)
    refine FR_ite2 (fun _ => ?_) (fun _ => FR_ite (fun h => FR_ite2 (fun _ => FR_nx hl (okl_cons (okv_big (Nat.le_trans h.1 (Nat.le_add_right _ _))) (okl_tl hs)) hR) (fun _ => FR_ite (fun _ => FR_nx hl (okl_cons okv_int (okl_tl hs)) hR))))
    dsimp only
    rw [e1]
    cases h : tL[o]? with
    | none => exact FR_none
    | some q =>
      have ho := e2 q h
      rw [big_lo ho]
      refine FR_ite (fun _ => FR_ite2 (fun _ => FR_nx hl (okl_cons ?_ (okl_tl hs)) hR) (fun _ => FR_nx hl (okl_cons okv_int (okl_tl hs)) hR))
      intro x hx
      cases hq : R o b with
      | none => rw [hq] at hx; cases hx
      | some y =>
        rw [hq, va_rf_some] at hx
        cases hx
        exact Or.inl (hR.1 o b _ ho hq)
  · exact FR_none
theorem fr_putf {a b d : Nat} (hl : okl ls) (hs : okl st) (hR : okR R) : FR (tm_putf pc a b d ls st (sB I J R c)) (tm_putf pc a b d ls st (sA I J R c)) := by
  unfold tm_putf
  split
  · rename_i x o r
    obtain ⟨e1, e2⟩ := ok_get (okl_hd (okl_tl hs))
    dsimp only
    rw [e1]
    cases h : tL[o]? with
    | none => exact FR_none
    | some q => exact FR_ite (fun _ => FR_nx hl (okl_tl (okl_tl hs)) hR)
  · rename_i x o r
    obtain ⟨e1, e2⟩ := ok_get (okl_hd (okl_tl hs))
    dsimp only
    rw [e1]
    cases h : tL[o]? with
    | none => exact FR_none
    | some q =>
      have ho := e2 q h
      have hl84 : tL.length = 84 := by decide
      have hl56 : (tL.take 56).length = 56 := by decide
      rw [big_lo ho, big_up ho]
      have hx56 : x < tL.length → x < 56 := fun hx => ok_lt (okl_hd hs) hx
      refine FR_itq (fun g => ⟨g.1, g.2.1, by rw [hl56]; exact hx56 g.2.2.1, g.2.2.2⟩) (fun g => FR_nx hl (okl_tl (okl_tl hs)) (okR_up hR ho (hx56 g.2.2.1)))
  · exact FR_none
theorem fr_ald {kd : Nat} (hl : okl ls) (hs : okl st) (hR : okR R) : FR (tm_ald E pc kd ls st (sB I J R c)) (tm_ald E pc kd ls st (sA I J R c)) := by
  unfold tm_ald
  split
  · rename_i i o r
    obtain ⟨e1, e2⟩ := ok_get (okl_hd (okl_tl hs))
    refine FR_ite2 (fun _ => FR_ite (fun _ => FR_nx hl (okl_cons okv_int (okl_tl (okl_tl hs))) hR)) (fun _ => FR_ite2 (fun _ => FR_ite (fun _ => FR_nx hl (okl_cons okv_int (okl_tl (okl_tl hs))) hR)) (fun _ => ?_))
    dsimp only
    rw [e1]
    cases h : tL[o]? with
    | none => exact FR_none
    | some q => exact FR_ite (fun _ => FR_nx hl (okl_cons okv_int (okl_tl (okl_tl hs))) hR)
  · exact FR_none
theorem fr_ast {kd : Nat} (hl : okl ls) (hs : okl st) (hR : okR R) : FR (tm_ast pc kd ls st (sB I J R c)) (tm_ast pc kd ls st (sA I J R c)) := by
  unfold tm_ast
  split
  · rename_i x i o r
    obtain ⟨e1, e2⟩ := ok_get (okl_hd (okl_tl (okl_tl hs)))
    dsimp only
    rw [e1]
    cases h : tL[o]? with
    | none => exact FR_none
    | some q => exact FR_ite (fun _ => FR_nx hl (okl_tl (okl_tl (okl_tl hs))) hR)
  · exact FR_none
theorem fr_lald (hl : okl ls) (hs : okl st) (hR : okR R) : FR (tm_lald pc ls st (sB I J R c)) (tm_lald pc ls st (sA I J R c)) := by
  unfold tm_lald
  split
  · rename_i i o r
    obtain ⟨e1, e2⟩ := ok_get (okl_hd (okl_tl hs))
    dsimp only
    rw [e1]
    cases h : tL[o]? with
    | none => exact FR_none
    | some q => exact FR_ite (fun _ => FR_nx hl (okl_cons okv_long (okl_tl (okl_tl hs))) hR)
  · exact FR_none
theorem fr_last (hl : okl ls) (hs : okl st) (hR : okR R) : FR (tm_last pc ls st (sB I J R c)) (tm_last pc ls st (sA I J R c)) := by
  unfold tm_last
  split
  · rename_i x i o r
    obtain ⟨e1, e2⟩ := ok_get (okl_hd (okl_tl (okl_tl hs)))
    dsimp only
    rw [e1]
    cases h : tL[o]? with
    | none => exact FR_none
    | some q => exact FR_ite (fun _ => FR_nx hl (okl_tl (okl_tl (okl_tl hs))) hR)
  · exact FR_none
theorem fr_aald (hl : okl ls) (hs : okl st) (hR : okR R) : FR (tm_aald pc ls st (sB I J R c)) (tm_aald pc ls st (sA I J R c)) := by
  unfold tm_aald
  split
  · rename_i i o r
    obtain ⟨e1, e2⟩ := ok_get (okl_hd (okl_tl hs))
    dsimp only
    rw [e1]
    cases h : tL[o]? with
    | none => exact FR_none
    | some q =>
      have ho := e2 q h
      rw [big_lo ho]
      refine FR_ite (fun _ => FR_nx hl (okl_cons ?_ (okl_tl (okl_tl hs))) hR)
      intro x hx
      cases hq : R o i.toNatClampNeg with
      | none => rw [hq] at hx; cases hx
      | some y =>
        rw [hq, va_rf_some] at hx
        cases hx
        exact Or.inl (hR.1 o _ _ ho hq)
  · exact FR_none
theorem fr_aast (hl : okl ls) (hs : okl st) (hR : okR R) : FR (tm_aast pc ls st (sB I J R c)) (tm_aast pc ls st (sA I J R c)) := by
  unfold tm_aast
  split
  · rename_i v i o r
    obtain ⟨e1, e2⟩ := ok_get (okl_hd (okl_tl (okl_tl hs)))
    obtain ⟨e3, e4⟩ := ok_get (okl_hd hs)
    dsimp only
    rw [e1, e3]
    cases h : tL[o]? with
    | none => exact FR_none
    | some q =>
      cases h2 : tL[v]? with
      | none => exact FR_none
      | some q2 =>
        have ho := e2 q h
        have hv := e4 q2 h2
        rw [big_lo ho, big_up ho]
        refine FR_ite (fun _ => FR_nx hl (okl_tl (okl_tl (okl_tl hs))) (okR_up hR ho hv))
  · exact FR_none
theorem fr_alen (hl : okl ls) (hs : okl st) (hR : okR R) : FR (tm_alen E pc ls st (sB I J R c)) (tm_alen E pc ls st (sA I J R c)) := by
  unfold tm_alen
  split
  · rename_i o r
    obtain ⟨e1, e2⟩ := ok_get (okl_hd hs)
    refine FR_ite2 (fun _ => FR_nx hl (okl_cons okv_int (okl_tl hs)) hR) (fun _ => FR_ite2 (fun _ => FR_nx hl (okl_cons okv_int (okl_tl hs)) hR) (fun _ => ?_))
    dsimp only
    rw [e1]
    cases h : tL[o]? with
    | none => exact FR_none
    | some q => exact FR_ite (fun _ => FR_nx hl (okl_cons okv_int (okl_tl hs)) hR)
  · exact FR_none
theorem fr_copy (hl : okl ls) (hs : okl st) (hR : okR R) : FR (tm_copy pc ls st (sB I J R c)) (tm_copy pc ls st (sA I J R c)) := by
  unfold tm_copy
  split
  · rename_i n dp a sp a0 r
    obtain ⟨e1, e2⟩ := ok_get (okl_hd (okl_tl (okl_tl hs)))
    obtain ⟨e3, e4⟩ := ok_get (okl_hd (okl_tl (okl_tl (okl_tl (okl_tl hs)))))
    dsimp only
    rw [e1, e3]
    cases h : tL[a0]? with
    | none => exact FR_none
    | some q =>
      cases h2 : tL[a]? with
      | none => exact FR_none
      | some q2 => exact FR_ite (fun _ => FR_nx hl (okl_tl (okl_tl (okl_tl (okl_tl (okl_tl hs))))) hR)
  · exact FR_none
theorem fr_new {k a : Nat} (hk : tm_mc k = 0) {y : Option tm_Out} : FR (tm_new pc k a ls st (sB I J R c)) y := by
  unfold tm_new
  rw [if_neg (fun g => by have := g.2.2.2.1; omega)]
  exact FR_none
theorem fr_newa {k kd : Nat} (hk : tm_mc k = 0) {y : Option tm_Out} : FR (tm_newa pc k kd ls st (sB I J R c)) y := by
  unfold tm_newa
  split
  · rw [if_neg (fun g => by have := g.2.2.2.2.2.1; omega)]
    exact FR_none
  · exact FR_none
end M4
