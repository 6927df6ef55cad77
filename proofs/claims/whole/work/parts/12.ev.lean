/-! ===== runs without counting: what a run ends with ===== -/
theorem tm_run_mono {E : tm_Env} : ∀ {n k pc : Nat} {ls st : List Value} {S : tm_St} {r : Option Int32 × tm_St}, tm_run E n k pc ls st S = some r → tm_run E (n + 1) k pc ls st S = some r := by
  intro n
  induction n with
  | zero => intro k pc ls st S r h; cases h
  | succ n ih =>
    intro k pc ls st S r h
    rw [tm_run] at h ⊢
    split at h
    · cases h
    · rename_i x hp
      split at h
      · rename_i hc
        rw [if_pos hc]
        split at h
        · cases h
        · rename_i c hcc
          try dsimp only
          split at h
          · cases h
          · rename_i q hq
            rw [ih hq]
            try dsimp only
            exact ih h
      · rename_i hc
        rw [if_neg hc]
        split at h
        · rename_i hr
          rw [if_pos hr]
          exact h
        · rename_i hr
          rw [if_neg hr]
          split at h
          · cases h
          · try dsimp only
            exact ih h
theorem tm_run_le {E : tm_Env} {n m k pc : Nat} {ls st : List Value} {S : tm_St} {r : Option Int32 × tm_St} (h : tm_run E n k pc ls st S = some r) (hm : n ≤ m) : tm_run E m k pc ls st S = some r := by
  induction hm with
  | refl => exact h
  | step _ ih => exact tm_run_mono ih
def tEv (E : tm_Env) (k pc : Nat) (ls st : List Value) (S : tm_St) (Q : Option Int32 → tm_St → Prop) : Prop := ∃ n r, tm_run E n k pc ls st S = some r ∧ Q r.1 r.2
theorem tEv_pos {E : tm_Env} {k pc : Nat} {ls st : List Value} {S : tm_St} {Q : Option Int32 → tm_St → Prop} (h : tEv E k pc ls st S Q) : ∃ n r, tm_run E (n + 1) k pc ls st S = some r ∧ Q r.1 r.2 := by
  obtain ⟨n, r, h1, h2⟩ := h
  exact ⟨n, r, tm_run_mono h1, h2⟩
theorem tEv_next {E : tm_Env} {k pc : Nat} {ls st : List Value} {S : tm_St} {Q : Option Int32 → tm_St → Prop} {x : tm_Ins} {pc' : Nat} {ls' st' : List Value} {S' : tm_St} (hp : tm_prog k pc = some x) (h1 : tm_isc x = false) (h2 : tm_isret x = false) (he : tm_exec E k pc x ls st S = some (pc', ls', st', S')) : tEv E k pc ls st S Q = tEv E k pc' ls' st' S' Q := by
  apply propext
  constructor
  · intro h
    obtain ⟨n, r, hr, hq⟩ := tEv_pos h
    rw [tm_run, hp] at hr
    dsimp only at hr
    rw [if_neg (by rw [h1]; decide), if_neg (by rw [h2]; decide), he] at hr
    exact ⟨n, r, hr, hq⟩
  · rintro ⟨n, r, hr, hq⟩
    refine ⟨n + 1, r, ?_, hq⟩
    rw [tm_run, hp]
    dsimp only
    rw [if_neg (by rw [h1]; decide), if_neg (by rw [h2]; decide), he]
    exact hr
theorem tEv_ret {E : tm_Env} {k pc : Nat} {ls st : List Value} {S : tm_St} {Q : Option Int32 → tm_St → Prop} {x : tm_Ins} {r : Option Int32} (hp : tm_prog k pc = some x) (h1 : tm_isc x = false) (h2 : tm_isret x = true) (he : tm_retx k x st = some r) : tEv E k pc ls st S Q = Q r S := by
  apply propext
  constructor
  · intro h
    obtain ⟨n, r, hr, hq⟩ := tEv_pos h
    rw [tm_run, hp] at hr
    dsimp only at hr
    rw [if_neg (by rw [h1]; decide), if_pos h2, he] at hr
    cases hr
    exact hq
  · intro hq
    refine ⟨1, (r, S), ?_, hq⟩
    rw [tm_run, hp]
    dsimp only
    rw [if_neg (by rw [h1]; decide), if_pos h2, he]
theorem tEv_call {E : tm_Env} {k pc : Nat} {ls st : List Value} {S : tm_St} {Q : Option Int32 → tm_St → Prop} {x : tm_Ins} {as rest : List Value} (hp : tm_prog k pc = some x) (h1 : tm_isc x = true) (he : tm_call k x.2.2.1 x.2.2.2.1 x.2.2.2.2.2 ls st S = some (as, rest)) :
    tEv E k pc ls st S Q = tEv E x.2.2.1 0 (tm_ent x.2.2.1 as) [] (S.1, 0, 0) (fun r S2 => tEv E k (pc + 3) ls (tm_push r rest) (S2.1, S.2.1 + tm_mc x.2.2.1, S.2.2 + tm_ms x.2.2.1) Q) := by
  apply propext
  constructor
  · intro h
    obtain ⟨n, r, hr, hq⟩ := tEv_pos h
    rw [tm_run, hp] at hr
    dsimp only at hr
    rw [if_pos h1, he] at hr
    dsimp only at hr
    split at hr
    · cases hr
    · rename_i q hq2
      exact ⟨n, q, hq2, n, r, hr, hq⟩
  · rintro ⟨n, q, hq2, n2, r, hr, hq⟩
    refine ⟨Nat.max n n2 + 1, r, ?_, hq⟩
    rw [tm_run, hp]
    dsimp only
    rw [if_pos h1, he]
    dsimp only
    rw [tm_run_le hq2 (Nat.le_max_left n n2)]
    exact tm_run_le hr (Nat.le_max_right n n2)
theorem tEv_br {E : tm_Env} {k pc : Nat} {ls st : List Value} {S : tm_St} {Q : Option Int32 → tm_St → Prop} {x : tm_Ins} {b : Bool} {pc1 pc2 : Nat} {ls' st' : List Value} (hp : tm_prog k pc = some x) (h1 : tm_isc x = false) (h2 : tm_isret x = false) (he : tm_exec E k pc x ls st S = tm_if pc1 pc2 b ls' st' S) : tEv E k pc ls st S Q = if b = true then tEv E k pc1 ls' st' S Q else tEv E k pc2 ls' st' S Q := by
  cases b with
  | true => rw [if_pos rfl]; exact tEv_next hp h1 h2 he
  | false => rw [if_neg (by decide)]; exact tEv_next hp h1 h2 he
/-- kind and length of a cell -/
def tm_kn (L : List (Nat × Nat)) (o : Nat) : Option Nat := (L[o]?).map Prod.fst
def tm_ln (L : List (Nat × Nat)) (o : Nat) : Nat := match L[o]? with
  | some q => q.2
  | none => 0
theorem tm_kn_some {L : List (Nat × Nat)} {o a : Nat} (h : tm_kn L o = some a) : L[o]? = some (a, tm_ln L o) := by
  unfold tm_kn at h
  unfold tm_ln
  cases hq : L[o]? with
  | none => rw [hq] at h; cases h
  | some q => rw [hq] at h; cases h; rfl
theorem tx_geti {pc a b o : Nat} {ls r : List Value} {L : List (Nat × Nat)} {I : Nat → Nat → Int32} {J : Nat → Nat → Int64} {R : Nat → Nat → Option Nat} {c : Nat × Nat} (h : tm_kn L o = some a) (hr : tm_isr a b = false) : tm_getf pc a b 0 ls (.ref o :: r) ((L, I, J, R), c) = some (pc, ls, .int (I o b) :: r, ((L, I, J, R), c)) := by
  simp [tm_getf, tm_kn_some h, hr, tm_nx]
theorem tx_getr {pc a b o : Nat} {ls r : List Value} {L : List (Nat × Nat)} {I : Nat → Nat → Int32} {J : Nat → Nat → Int64} {R : Nat → Nat → Option Nat} {c : Nat × Nat} (h : tm_kn L o = some a) (hr : tm_isr a b = true) : tm_getf pc a b 0 ls (.ref o :: r) ((L, I, J, R), c) = some (pc, ls, va_rf (R o b) :: r, ((L, I, J, R), c)) := by
  simp [tm_getf, tm_kn_some h, hr, tm_nx]
theorem tx_puti {pc a b o : Nat} {x : Int32} {ls r : List Value} {L : List (Nat × Nat)} {I : Nat → Nat → Int32} {J : Nat → Nat → Int64} {R : Nat → Nat → Option Nat} {c : Nat × Nat} (h : tm_kn L o = some a) (hr : tm_ty a b = .int) : tm_putf pc a b 0 ls (.int x :: .ref o :: r) ((L, I, J, R), c) = some (pc, ls, r, ((L, va_up I o (upd (I o) b x), J, R), c)) := by
  have h1 : tm_isr a b = false := by simp [tm_isr, hr]
  have h2 : vp_nar (tm_ty a b) x = x := by rw [hr]; rfl
  have h3 : fits (tm_ty a b) (.int x) = true := by rw [hr]; rfl
  simp [tm_putf, tm_kn_some h, h1, h2, h3, tm_nx]
theorem tx_putz {pc a b o : Nat} {x : Int32} {ls r : List Value} {L : List (Nat × Nat)} {I : Nat → Nat → Int32} {J : Nat → Nat → Int64} {R : Nat → Nat → Option Nat} {c : Nat × Nat} (h : tm_kn L o = some a) (hr : tm_ty a b = .boolean) (hx : x = 0 ∨ x = 1) : tm_putf pc a b 0 ls (.int x :: .ref o :: r) ((L, I, J, R), c) = some (pc, ls, r, ((L, va_up I o (upd (I o) b x), J, R), c)) := by
  have h1 : tm_isr a b = false := by simp [tm_isr, hr]
  have h2 : vp_nar (tm_ty a b) x = x := by rw [hr]; rcases hx with rfl | rfl <;> rfl
  have h3 : fits (tm_ty a b) (.int x) = true := by rw [hr]; rcases hx with rfl | rfl <;> rfl
  simp [tm_putf, tm_kn_some h, h1, h2, h3, tm_nx]
theorem tx_putr {pc a b o x : Nat} {ls r : List Value} {L : List (Nat × Nat)} {I : Nat → Nat → Int32} {J : Nat → Nat → Int64} {R : Nat → Nat → Option Nat} {c : Nat × Nat} (h : tm_kn L o = some a) (hr : tm_isr a b = true) (hx : x < L.length) : tm_putf pc a b 0 ls (.ref x :: .ref o :: r) ((L, I, J, R), c) = some (pc, ls, r, ((L, I, J, va_up R o (va_up (R o) b (some x))), c)) := by
  simp [tm_putf, tm_kn_some h, hr, hx, tm_nx]
theorem tm_kn_lt {L : List (Nat × Nat)} {o a : Nat} (h : tm_kn L o = some a) : o < L.length := (List.getElem?_eq_some_iff.mp (tm_kn_some h)).1
theorem tx_ald {E : tm_Env} {pc kd o : Nat} {i : Int32} {ls r : List Value} {L : List (Nat × Nat)} {I : Nat → Nat → Int32} {J : Nat → Nat → Int64} {R : Nat → Nat → Option Nat} {c : Nat × Nat} (h : tm_kn L o = some kd) (ho : o < 1000) (hi : tm_inb i (tm_ln L o) = true) : tm_ald E pc kd ls (.int i :: .ref o :: r) ((L, I, J, R), c) = some (pc, ls, .int (I o i.toNatClampNeg) :: r, ((L, I, J, R), c)) := by
  have h1 : ¬ o = 2000 := by omega
  have h2 : ¬ (1100 ≤ o ∧ o < 1103) := by omega
  simp only [tm_ald, if_neg h1, if_neg h2, tm_kn_some h, hi, and_self, if_true, tm_nx]
theorem tx_aldS {E : tm_Env} {pc : Nat} {i : Int32} {ls r : List Value} {S : tm_St} (hi : tm_inb i E.2 = true) : tm_ald E pc 13 ls (.int i :: .ref 2000 :: r) S = some (pc, ls, .int (E.1 i.toNatClampNeg) :: r, S) := by
  simp [tm_ald, hi, tm_nx]
theorem tx_aldB {E : tm_Env} {pc o : Nat} {i : Int32} {ls r : List Value} {S : tm_St} (ho : 1100 ≤ o ∧ o < 1103) (hi : tm_inb i (tm_len.getD (o - 1100) 0) = true) : tm_ald E pc 15 ls (.int i :: .ref o :: r) S = some (pc, ls, .int ((tm_byt.getD (o - 1100) []).getD i.toNatClampNeg 0) :: r, S) := by
  have h1 : ¬ o = 2000 := by omega
  simp only [tm_ald, if_neg h1, if_pos ho, hi, and_self, if_true, tm_nx]
theorem tx_ast {pc kd o : Nat} {i x : Int32} {ls r : List Value} {L : List (Nat × Nat)} {I : Nat → Nat → Int32} {J : Nat → Nat → Int64} {R : Nat → Nat → Option Nat} {c : Nat × Nat} (h : tm_kn L o = some kd) (hi : tm_inb i (tm_ln L o) = true) : tm_ast pc kd ls (.int x :: .int i :: .ref o :: r) ((L, I, J, R), c) = some (pc, ls, r, ((L, va_up I o (upd (I o) i.toNatClampNeg (vp_nar (tm_akt kd) x)), J, R), c)) := by
  simp [tm_ast, tm_kn_some h, hi, tm_nx]
theorem tx_lald {pc o : Nat} {i : Int32} {ls r : List Value} {L : List (Nat × Nat)} {I : Nat → Nat → Int32} {J : Nat → Nat → Int64} {R : Nat → Nat → Option Nat} {c : Nat × Nat} (h : tm_kn L o = some 14) (hi : tm_inb i (tm_ln L o) = true) : tm_lald pc ls (.int i :: .ref o :: r) ((L, I, J, R), c) = some (pc, ls, .long (J o i.toNatClampNeg) :: r, ((L, I, J, R), c)) := by
  simp [tm_lald, tm_kn_some h, hi, tm_nx]
theorem tx_last {pc o : Nat} {i : Int32} {x : Int64} {ls r : List Value} {L : List (Nat × Nat)} {I : Nat → Nat → Int32} {J : Nat → Nat → Int64} {R : Nat → Nat → Option Nat} {c : Nat × Nat} (h : tm_kn L o = some 14) (hi : tm_inb i (tm_ln L o) = true) : tm_last pc ls (.long x :: .int i :: .ref o :: r) ((L, I, J, R), c) = some (pc, ls, r, ((L, I, va_up J o (vp_updL (J o) i.toNatClampNeg x), R), c)) := by
  simp [tm_last, tm_kn_some h, hi, tm_nx]
theorem tx_aald {pc o : Nat} {i : Int32} {ls r : List Value} {L : List (Nat × Nat)} {I : Nat → Nat → Int32} {J : Nat → Nat → Int64} {R : Nat → Nat → Option Nat} {c : Nat × Nat} (h : tm_kn L o = some 16) (hi : tm_inb i (tm_ln L o) = true) : tm_aald pc ls (.int i :: .ref o :: r) ((L, I, J, R), c) = some (pc, ls, va_rf (R o i.toNatClampNeg) :: r, ((L, I, J, R), c)) := by
  simp [tm_aald, tm_kn_some h, hi, tm_nx]
theorem tx_aast {pc o v : Nat} {i : Int32} {ls r : List Value} {L : List (Nat × Nat)} {I : Nat → Nat → Int32} {J : Nat → Nat → Int64} {R : Nat → Nat → Option Nat} {c : Nat × Nat} (h : tm_kn L o = some 16) (hv : tm_kn L v = some 7) (hi : tm_inb i (tm_ln L o) = true) : tm_aast pc ls (.ref v :: .int i :: .ref o :: r) ((L, I, J, R), c) = some (pc, ls, r, ((L, I, J, va_up R o (va_up (R o) i.toNatClampNeg (some v))), c)) := by
  simp [tm_aast, tm_kn_some h, tm_kn_some hv, hi, tm_nx]
theorem tx_alen {E : tm_Env} {pc kd o : Nat} {ls r : List Value} {L : List (Nat × Nat)} {I : Nat → Nat → Int32} {J : Nat → Nat → Int64} {R : Nat → Nat → Option Nat} {c : Nat × Nat} (h : tm_kn L o = some kd) (hk : 12 ≤ kd) (ho : o < 1000) : tm_alen E pc ls (.ref o :: r) ((L, I, J, R), c) = some (pc, ls, .int (Int32.ofNat (tm_ln L o)) :: r, ((L, I, J, R), c)) := by
  have h1 : ¬ o = 2000 := by omega
  have h2 : ¬ (1100 ≤ o ∧ o < 1103) := by omega
  simp only [tm_alen, if_neg h1, if_neg h2, tm_kn_some h, hk, if_true, tm_nx]
theorem tx_alenS {E : tm_Env} {pc : Nat} {ls r : List Value} {S : tm_St} : tm_alen E pc ls (.ref 2000 :: r) S = some (pc, ls, .int (Int32.ofNat E.2) :: r, S) := by
  simp [tm_alen, tm_nx]
theorem tx_alenB {E : tm_Env} {pc o : Nat} {ls r : List Value} {S : tm_St} (ho : 1100 ≤ o ∧ o < 1103) : tm_alen E pc ls (.ref o :: r) S = some (pc, ls, .int (Int32.ofNat (tm_len.getD (o - 1100) 0)) :: r, S) := by
  have h1 : ¬ o = 2000 := by omega
  simp only [tm_alen, if_neg h1, if_pos ho, tm_nx]
theorem tx_copy {pc a a0 : Nat} {n dp sp : Int32} {ls : List Value} {L : List (Nat × Nat)} {I : Nat → Nat → Int32} {J : Nat → Nat → Int64} {R : Nat → Nat → Option Nat} {c : Nat × Nat} (h : tm_kn L a = some 13) (h0 : tm_kn L a0 = some 13) (h3 : ¬ sp < 0) (h4 : ¬ dp < 0) (h5 : ¬ n < 0) (h1 : sp.toNatClampNeg + n.toNatClampNeg ≤ tm_ln L a0) (h2 : dp.toNatClampNeg + n.toNatClampNeg ≤ tm_ln L a) :
    tm_copy pc ls [.int n, .int dp, .ref a, .int sp, .ref a0] ((L, I, J, R), c) = some (pc, ls, [], ((L, va_up I a (va_cpy (I a0) (I a) sp.toNatClampNeg dp.toNatClampNeg n.toNatClampNeg), J, R), c)) := by
  simp only [tm_copy, tm_kn_some h, tm_kn_some h0, h1, h2, h3, h4, h5, and_self, not_false_eq_true, if_true, tm_nx]
/-- is the cell an object of method a's class -/
theorem tx_recv {a o : Nat} {L : List (Nat × Nat)} {I : Nat → Nat → Int32} {J : Nat → Nat → Int64} {R : Nat → Nat → Option Nat} {c : Nat × Nat} (h : tm_kn L o = some (tm_o a)) (h12 : tm_o a < 12) (ho : o < 1000) : tm_recv a o ((L, I, J, R), c) = true := by
  have h2 : ¬ (1000 ≤ o ∧ o < 1003) := by omega
  simp [tm_recv, h2, tm_kn_some h, h12]
theorem tx_recvS {a o : Nat} {S : tm_St} (h : tm_o a = 13) (ho : 1000 ≤ o ∧ o < 1003) : tm_recv a o S = true := by
  simp [tm_recv, ho, h]
