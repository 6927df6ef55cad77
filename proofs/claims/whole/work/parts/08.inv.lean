/-! ===== what a step of the small machine was ===== -/
theorem ti_nx {pc : Nat} {ls st : List Value} {S : tm_St} {z : Nat × List Value × List Value × tm_St} (h : tm_nx pc ls st S = some z) : z = (pc, ls, st, S) := by
  unfold tm_nx at h; cases h; rfl
theorem ti_load {pc i ty : Nat} {ls st : List Value} {S : tm_St} {z : Nat × List Value × List Value × tm_St} (h : tm_load pc i ty ls st S = some z) :
    (ty = 0 ∧ ∃ x, ls[i]? = some (.int x) ∧ z = (pc, ls, .int x :: st, S)) ∨ (ty = 1 ∧ ∃ x, ls[i]? = some (.ref x) ∧ z = (pc, ls, .ref x :: st, S)) ∨ (ty = 2 ∧ ∃ x, ls[i]? = some (.long x) ∧ z = (pc, ls, .long x :: st, S)) := by
  unfold tm_load at h
  split at h
  · rename_i x hx
    split at h
    · exact Or.inl ⟨by assumption, x, hx, ti_nx h⟩
    · cases h
  · rename_i x hx
    split at h
    · exact Or.inr (Or.inl ⟨by assumption, x, hx, ti_nx h⟩)
    · cases h
  · rename_i x hx
    split at h
    · exact Or.inr (Or.inr ⟨by assumption, x, hx, ti_nx h⟩)
    · cases h
  · cases h
theorem ti_store {k pc i ty : Nat} {ls st : List Value} {S : tm_St} {z : Nat × List Value × List Value × tm_St} (h : tm_store k pc i ty ls st S = some z) :
    (ty = 0 ∧ ∃ x r, st = .int x :: r ∧ i < ls.length ∧ tm_free k ls i = true ∧ z = (pc, ls.set i (.int x), r, S)) ∨ (ty = 1 ∧ ∃ x r, st = .ref x :: r ∧ i < ls.length ∧ tm_free k ls i = true ∧ z = (pc, ls.set i (.ref x), r, S)) ∨ (ty = 2 ∧ ∃ x r, st = .long x :: r ∧ tm_hl k = true ∧ i + 1 < ls.length ∧ tm_free k ls i = true ∧ z = (pc, (ls.set i (.long x)).set (i + 1) tm_dum, r, S)) := by
  unfold tm_store at h
  split at h
  · rename_i x r
    split at h
    · rename_i q
      exact Or.inl ⟨q.1, x, r, rfl, q.2.1, q.2.2, ti_nx h⟩
    · cases h
  · rename_i x r
    split at h
    · rename_i q
      exact Or.inr (Or.inl ⟨q.1, x, r, rfl, q.2.1, q.2.2, ti_nx h⟩)
    · cases h
  · rename_i x r
    split at h
    · rename_i q
      exact Or.inr (Or.inr ⟨q.1, x, r, rfl, q.2.1, q.2.2.1, q.2.2.2, ti_nx h⟩)
    · cases h
  · cases h
theorem ti_op2 {pc : Nat} {f : Int32 → Int32 → Option Int32} {ls st : List Value} {S : tm_St} {z : Nat × List Value × List Value × tm_St} (h : tm_op2 pc f ls st S = some z) :
    ∃ x y r w, st = .int y :: .int x :: r ∧ f x y = some w ∧ z = (pc, ls, .int w :: r, S) := by
  unfold tm_op2 at h
  split at h
  · rename_i y x r
    split at h
    · rename_i w hw
      exact ⟨x, y, r, w, rfl, hw, ti_nx h⟩
    · cases h
  · cases h
theorem ti_op2l {pc : Nat} {f : Int64 → Int64 → Option Int64} {ls st : List Value} {S : tm_St} {z : Nat × List Value × List Value × tm_St} (h : tm_op2l pc f ls st S = some z) :
    ∃ x y r w, st = .long y :: .long x :: r ∧ f x y = some w ∧ z = (pc, ls, .long w :: r, S) := by
  unfold tm_op2l at h
  split at h
  · rename_i y x r
    split at h
    · rename_i w hw
      exact ⟨x, y, r, w, rfl, hw, ti_nx h⟩
    · cases h
  · cases h
theorem ti_op1 {pc : Nat} {f : Int32 → Int32} {ls st : List Value} {S : tm_St} {z : Nat × List Value × List Value × tm_St} (h : tm_op1 pc f ls st S = some z) :
    ∃ x r, st = .int x :: r ∧ z = (pc, ls, .int (f x) :: r, S) := by
  unfold tm_op1 at h
  split at h
  · rename_i x r
    exact ⟨x, r, rfl, ti_nx h⟩
  · cases h
theorem ti_if {t pc : Nat} {b : Bool} {ls st : List Value} {S : tm_St} {z : Nat × List Value × List Value × tm_St} (h : tm_if t pc b ls st S = some z) :
    (b = true ∧ z = (t, ls, st, S)) ∨ (b = false ∧ z = (pc, ls, st, S)) := by
  unfold tm_if at h
  split at h
  · exact Or.inl ⟨by assumption, ti_nx h⟩
  · exact Or.inr ⟨by simpa using ‹¬ b = true›, ti_nx h⟩
theorem ti_getf {pc a b d : Nat} {ls st : List Value} {S : tm_St} {z : Nat × List Value × List Value × tm_St} (h : tm_getf pc a b d ls st S = some z) :
    ∃ (o : Nat) (r : List Value), st = .ref o :: r ∧ ((d = 0 ∧ ∃ n, S.1.1[o]? = some (a, n) ∧ ((tm_isr a b = true ∧ z = (pc, ls, va_rf (S.1.2.2.2 o b) :: r, S)) ∨ (tm_isr a b = false ∧ z = (pc, ls, .int (S.1.2.1 o b) :: r, S)))) ∨ (d = 4 ∧ (1000 ≤ o ∧ o < 1003) ∧ z = (pc, ls, .ref (o + 100) :: r, S)) ∨ (d = 5 ∧ (1000 ≤ o ∧ o < 1003) ∧ z = (pc, ls, .int 0 :: r, S))) := by
  unfold tm_getf at h
  split at h
  · rename_i o r
    refine ⟨o, r, rfl, ?_⟩
    split at h
    · rename_i hd
      split at h
      · rename_i ci n hL
        split at h
        · rename_i hc
          subst hc
          refine Or.inl ⟨hd, n, hL, ?_⟩
          split at h
          · exact Or.inl ⟨by assumption, ti_nx h⟩
          · exact Or.inr ⟨by simpa using ‹¬ tm_isr ci b = true›, ti_nx h⟩
        · cases h
      · cases h
    · split at h
      · rename_i ho
        split at h
        · exact Or.inr (Or.inl ⟨by assumption, ho, ti_nx h⟩)
        · split at h
          · exact Or.inr (Or.inr ⟨by assumption, ho, ti_nx h⟩)
          · cases h
      · cases h
  · cases h
theorem ti_putf {pc a b d : Nat} {ls st : List Value} {S : tm_St} {z : Nat × List Value × List Value × tm_St} (h : tm_putf pc a b d ls st S = some z) :
    d = 0 ∧ ∃ o r n, S.1.1[o]? = some (a, n) ∧ ((∃ x, st = .int x :: .ref o :: r ∧ tm_isr a b = false ∧ vp_nar (tm_ty a b) x = x ∧ fits (tm_ty a b) (.int x) = true ∧ z = (pc, ls, r, ((S.1.1, va_up S.1.2.1 o (upd (S.1.2.1 o) b x), S.1.2.2.1, S.1.2.2.2), S.2))) ∨ (∃ x, st = .ref x :: .ref o :: r ∧ x < S.1.1.length ∧ tm_isr a b = true ∧ z = (pc, ls, r, ((S.1.1, S.1.2.1, S.1.2.2.1, va_up S.1.2.2.2 o (va_up (S.1.2.2.2 o) b (some x))), S.2)))) := by
  unfold tm_putf at h
  split at h
  · rename_i x o r
    split at h
    · rename_i ci n hL
      split at h
      · rename_i q
        obtain ⟨q1, q2, q3, q4, q5⟩ := q
        subst q1
        exact ⟨q2, o, r, n, hL, Or.inl ⟨x, rfl, q3, q4, q5, ti_nx h⟩⟩
      · cases h
    · cases h
  · rename_i x o r
    split at h
    · rename_i ci n hL
      split at h
      · rename_i q
        obtain ⟨q1, q2, q3, q4⟩ := q
        subst q1
        exact ⟨q2, o, r, n, hL, Or.inr ⟨x, rfl, q3, q4, ti_nx h⟩⟩
      · cases h
    · cases h
  · cases h
theorem ti_ald {E : tm_Env} {pc kd : Nat} {ls st : List Value} {S : tm_St} {z : Nat × List Value × List Value × tm_St} (h : tm_ald E pc kd ls st S = some z) :
    ∃ (i : Int32) (o : Nat) (r : List Value), st = .int i :: .ref o :: r ∧ ((o = 2000 ∧ kd = 13 ∧ tm_inb i E.2 = true ∧ z = (pc, ls, .int (E.1 i.toNatClampNeg) :: r, S)) ∨ ((1100 ≤ o ∧ o < 1103) ∧ kd = 15 ∧ tm_inb i (tm_len.getD (o - 1100) 0) = true ∧ z = (pc, ls, .int ((tm_byt.getD (o - 1100) []).getD i.toNatClampNeg 0) :: r, S)) ∨ (∃ n, S.1.1[o]? = some (kd, n) ∧ tm_inb i n = true ∧ z = (pc, ls, .int (S.1.2.1 o i.toNatClampNeg) :: r, S))) := by
  unfold tm_ald at h
  split at h
  · rename_i i o r
    refine ⟨i, o, r, rfl, ?_⟩
    split at h
    · split at h
      · rename_i q
        exact Or.inl ⟨by assumption, q.1, q.2, ti_nx h⟩
      · cases h
    · split at h
      · rename_i ho
        split at h
        · rename_i q
          exact Or.inr (Or.inl ⟨ho, q.1, q.2, ti_nx h⟩)
        · cases h
      · split at h
        · rename_i k n hL
          split at h
          · rename_i q
            obtain ⟨q1, q2⟩ := q
            subst q1
            exact Or.inr (Or.inr ⟨n, hL, q2, ti_nx h⟩)
          · cases h
        · cases h
  · cases h
theorem ti_ast {pc kd : Nat} {ls st : List Value} {S : tm_St} {z : Nat × List Value × List Value × tm_St} (h : tm_ast pc kd ls st S = some z) :
    ∃ x i o r n, st = .int x :: .int i :: .ref o :: r ∧ S.1.1[o]? = some (kd, n) ∧ tm_inb i n = true ∧ z = (pc, ls, r, ((S.1.1, va_up S.1.2.1 o (upd (S.1.2.1 o) i.toNatClampNeg (vp_nar (tm_akt kd) x)), S.1.2.2.1, S.1.2.2.2), S.2)) := by
  unfold tm_ast at h
  split at h
  · rename_i x i o r
    split at h
    · rename_i k n hL
      split at h
      · rename_i q
        obtain ⟨q1, q2⟩ := q
        subst q1
        exact ⟨x, i, o, r, n, rfl, hL, q2, ti_nx h⟩
      · cases h
    · cases h
  · cases h
theorem ti_lald {pc : Nat} {ls st : List Value} {S : tm_St} {z : Nat × List Value × List Value × tm_St} (h : tm_lald pc ls st S = some z) :
    ∃ i o r n, st = .int i :: .ref o :: r ∧ S.1.1[o]? = some (14, n) ∧ tm_inb i n = true ∧ z = (pc, ls, .long (S.1.2.2.1 o i.toNatClampNeg) :: r, S) := by
  unfold tm_lald at h
  split at h
  · rename_i i o r
    split at h
    · rename_i k n hL
      split at h
      · rename_i q
        obtain ⟨q1, q2⟩ := q
        subst q1
        exact ⟨i, o, r, n, rfl, hL, q2, ti_nx h⟩
      · cases h
    · cases h
  · cases h
theorem ti_last {pc : Nat} {ls st : List Value} {S : tm_St} {z : Nat × List Value × List Value × tm_St} (h : tm_last pc ls st S = some z) :
    ∃ x i o r n, st = .long x :: .int i :: .ref o :: r ∧ S.1.1[o]? = some (14, n) ∧ tm_inb i n = true ∧ z = (pc, ls, r, ((S.1.1, S.1.2.1, va_up S.1.2.2.1 o (vp_updL (S.1.2.2.1 o) i.toNatClampNeg x), S.1.2.2.2), S.2)) := by
  unfold tm_last at h
  split at h
  · rename_i x i o r
    split at h
    · rename_i k n hL
      split at h
      · rename_i q
        obtain ⟨q1, q2⟩ := q
        subst q1
        exact ⟨x, i, o, r, n, rfl, hL, q2, ti_nx h⟩
      · cases h
    · cases h
  · cases h
theorem ti_aald {pc : Nat} {ls st : List Value} {S : tm_St} {z : Nat × List Value × List Value × tm_St} (h : tm_aald pc ls st S = some z) :
    ∃ i o r n, st = .int i :: .ref o :: r ∧ S.1.1[o]? = some (16, n) ∧ tm_inb i n = true ∧ z = (pc, ls, va_rf (S.1.2.2.2 o i.toNatClampNeg) :: r, S) := by
  unfold tm_aald at h
  split at h
  · rename_i i o r
    split at h
    · rename_i k n hL
      split at h
      · rename_i q
        obtain ⟨q1, q2⟩ := q
        subst q1
        exact ⟨i, o, r, n, rfl, hL, q2, ti_nx h⟩
      · cases h
    · cases h
  · cases h
theorem ti_aast {pc : Nat} {ls st : List Value} {S : tm_St} {z : Nat × List Value × List Value × tm_St} (h : tm_aast pc ls st S = some z) :
    ∃ v i o r n nv, st = .ref v :: .int i :: .ref o :: r ∧ S.1.1[o]? = some (16, n) ∧ S.1.1[v]? = some (7, nv) ∧ tm_inb i n = true ∧ z = (pc, ls, r, ((S.1.1, S.1.2.1, S.1.2.2.1, va_up S.1.2.2.2 o (va_up (S.1.2.2.2 o) i.toNatClampNeg (some v))), S.2)) := by
  unfold tm_aast at h
  split at h
  · rename_i v i o r
    split at h
    · rename_i k n kv nv hL hV
      split at h
      · rename_i q
        obtain ⟨q1, q2, q3⟩ := q
        subst q1; subst q2
        exact ⟨v, i, o, r, n, nv, rfl, hL, hV, q3, ti_nx h⟩
      · cases h
    · cases h
  · cases h
theorem ti_alen {E : tm_Env} {pc : Nat} {ls st : List Value} {S : tm_St} {z : Nat × List Value × List Value × tm_St} (h : tm_alen E pc ls st S = some z) :
    ∃ (o : Nat) (r : List Value), st = .ref o :: r ∧ ((o = 2000 ∧ z = (pc, ls, .int (Int32.ofNat E.2) :: r, S)) ∨ ((1100 ≤ o ∧ o < 1103) ∧ z = (pc, ls, .int (Int32.ofNat (tm_len.getD (o - 1100) 0)) :: r, S)) ∨ (∃ k n, S.1.1[o]? = some (k, n) ∧ 12 ≤ k ∧ z = (pc, ls, .int (Int32.ofNat n) :: r, S))) := by
  unfold tm_alen at h
  split at h
  · rename_i o r
    refine ⟨o, r, rfl, ?_⟩
    split at h
    · exact Or.inl ⟨by assumption, ti_nx h⟩
    · split at h
      · exact Or.inr (Or.inl ⟨by assumption, ti_nx h⟩)
      · split at h
        · rename_i k n hL
          split at h
          · exact Or.inr (Or.inr ⟨k, n, hL, by assumption, ti_nx h⟩)
          · cases h
        · cases h
  · cases h
theorem ti_new {pc k a : Nat} {ls st : List Value} {S : tm_St} {z : Nat × List Value × List Value × tm_St} (h : tm_new pc k a ls st S = some z) :
    a < 12 ∧ S.1.1.length < 999 ∧ tm_vb S.1.1.length (ls ++ st) = true ∧ S.2.1 + 1 ≤ tm_mc k ∧ S.2.2 + tm_nf a ≤ tm_ms k ∧ z = (pc, ls, .ref S.1.1.length :: st, ((S.1.1 ++ [(a, tm_nf a)], va_up S.1.2.1 S.1.1.length (fun _ => 0), S.1.2.2.1, va_up S.1.2.2.2 S.1.1.length (fun _ => none)), S.2.1 + 1, S.2.2 + tm_nf a)) := by
  unfold tm_new at h
  split at h
  · rename_i q
    exact ⟨q.1, q.2.1, q.2.2.1, q.2.2.2.1, q.2.2.2.2, ti_nx h⟩
  · cases h
theorem ti_newa {pc k kd : Nat} {ls st : List Value} {S : tm_St} {z : Nat × List Value × List Value × tm_St} (h : tm_newa pc k kd ls st S = some z) :
    ∃ n r, st = .int n :: r ∧ 12 ≤ kd ∧ S.1.1.length < 999 ∧ tm_vb S.1.1.length (ls ++ st) = true ∧ ¬ n < 0 ∧ n.toNatClampNeg ≤ 10000 ∧ S.2.1 + 1 ≤ tm_mc k ∧ S.2.2 + n.toNatClampNeg ≤ tm_ms k ∧ z = (pc, ls, .ref S.1.1.length :: r, ((S.1.1 ++ [(kd, n.toNatClampNeg)], va_up S.1.2.1 S.1.1.length (fun _ => 0), va_up S.1.2.2.1 S.1.1.length (fun _ => 0), va_up S.1.2.2.2 S.1.1.length (fun _ => none)), S.2.1 + 1, S.2.2 + n.toNatClampNeg)) := by
  unfold tm_newa at h
  split at h
  · rename_i n r
    split at h
    · rename_i q
      exact ⟨n, r, rfl, q.1, q.2.1, q.2.2.1, q.2.2.2.1, q.2.2.2.2.1, q.2.2.2.2.2.1, q.2.2.2.2.2.2, ti_nx h⟩
    · cases h
  · cases h
theorem ti_copy {pc : Nat} {ls st : List Value} {S : tm_St} {z : Nat × List Value × List Value × tm_St} (h : tm_copy pc ls st S = some z) :
    ∃ n dp a sp a0 n0 n1, st = [.int n, .int dp, .ref a, .int sp, .ref a0] ∧ S.1.1[a0]? = some (13, n0) ∧ S.1.1[a]? = some (13, n1) ∧ ¬ sp < 0 ∧ ¬ dp < 0 ∧ ¬ n < 0 ∧ sp.toNatClampNeg + n.toNatClampNeg ≤ n0 ∧ dp.toNatClampNeg + n.toNatClampNeg ≤ n1 ∧ z = (pc, ls, [], ((S.1.1, va_up S.1.2.1 a (va_cpy (S.1.2.1 a0) (S.1.2.1 a) sp.toNatClampNeg dp.toNatClampNeg n.toNatClampNeg), S.1.2.2.1, S.1.2.2.2), S.2)) := by
  unfold tm_copy at h
  split at h
  · rename_i n dp a sp a0 r
    split at h
    · rename_i k0 n0 k1 n1 h0 h1
      split at h
      · rename_i q
        obtain ⟨q1, q2, q3, q4, q5, q6, q7, q8⟩ := q
        subst q1; subst q2; subst q8
        exact ⟨n, dp, a, sp, a0, n0, n1, rfl, h0, h1, q3, q4, q5, q6, q7, ti_nx h⟩
      · cases h
    · cases h
  · cases h
theorem ti_inb {i : Int32} {n : Nat} (h : tm_inb i n = true) : vp_in i n := by
  unfold tm_inb at h
  intro q
  rcases q with q | q <;> simp [q] at h
