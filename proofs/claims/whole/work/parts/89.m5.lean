section M5
variable {E : tm_Env} {I : Nat → Nat → Int32} {J : Nat → Nat → Int64} {R : Nat → Nat → Option Nat} {c : Nat × Nat} {ls st : List Value} {k pc : Nat}
theorem FR_int {y : Int32} (hl : okl ls) (hs : okl st) (hR : okR R) {pc : Nat} : FR (tm_nx pc ls (.int y :: st) (sB I J R c)) (tm_nx pc ls (.int y :: st) (sA I J R c)) := FR_nx hl (okl_cons okv_int hs) hR
theorem FR_long {y : Int64} (hl : okl ls) (hs : okl st) (hR : okR R) {pc : Nat} : FR (tm_nx pc ls (.long y :: st) (sB I J R c)) (tm_nx pc ls (.long y :: st) (sA I J R c)) := FR_nx hl (okl_cons okv_long hs) hR
theorem okv_str (a : Nat) : okv (.ref (1000 + a)) := okv_big (Nat.le_add_right 1000 a)
set_option maxHeartbeats 4000000 in
theorem fr_exec {x : tm_Ins} (hk : tm_mc k = 0) (hl : okl ls) (hs : okl st) (hR : okR R) : FR (tm_exec E k pc x ls st (sB I J R c)) (tm_exec E k pc x ls st (sA I J R c)) := by
  obtain ⟨i, ln, a, b, cc, d⟩ := x
  unfold tm_exec
  dsimp only
  cases i
  all_goals dsimp only
  all_goals first
    | exact FR_none
    | exact FR_int hl hs hR
    | exact FR_long hl hs hR
    | exact fr_load hl hs hR
    | exact fr_store hl hs hR
    | exact fr_op2 hl hs hR
    | exact fr_op2l hl hs hR
    | exact fr_op1 hl hs hR
    | exact fr_getf hl hs hR
    | exact fr_putf hl hs hR
    | exact fr_ald hl hs hR
    | exact fr_ast hl hs hR
    | exact fr_lald hl hs hR
    | exact fr_last hl hs hR
    | exact fr_aald hl hs hR
    | exact fr_aast hl hs hR
    | exact fr_alen hl hs hR
    | exact fr_new hk
    | exact fr_newa hk
    | exact FR_nx hl hs hR
    | exact FR_ite2 (fun _ => FR_nx hl (okl_cons okv_int hs) hR) (fun _ => FR_nx hl (okl_cons (okv_str _) hs) hR)
    | exact FR_ite2 (fun _ => FR_nx hl (okl_cons okv_int hs) hR) (fun _ => FR_nx hl (okl_cons okv_ret hs) hR)
    | exact FR_ite2 (fun _ => fr_copy hl hs hR) (fun _ => FR_ite2 (fun _ => FR_ite (fun _ => fr_op2 hl hs hR)) (fun _ => FR_ite (fun _ => FR_ite (fun _ => fr_op2 hl hs hR))))
    | skip
  case iinc n v =>
    cases h : ls[n]? with
    | none => exact FR_none
    | some w =>
      cases w <;> first
        | exact FR_none
        | exact FR_ite (fun _ => FR_nx (okl_set hl okv_int _) hs hR)
  case lshr =>
    split
    · exact FR_nx hl (okl_cons okv_long (okl_tl (okl_tl hs))) hR
    · exact FR_none
  case lcmp =>
    split
    · exact FR_nx hl (okl_cons okv_int (okl_tl (okl_tl hs))) hR
    · exact FR_none
  case i2l =>
    split
    · exact FR_nx hl (okl_cons okv_long (okl_tl hs)) hR
    · exact FR_none
  case l2i =>
    split
    · exact FR_nx hl (okl_cons okv_int (okl_tl hs)) hR
    · exact FR_none
  case dup =>
    split
    · exact FR_ite (fun _ => FR_nx hl (okl_cons (okl_hd hs) hs) hR)
    · exact FR_none
  case dup2 =>
    split
    · exact FR_ite (fun _ => FR_nx hl (okl_cons (okl_hd hs) (okl_cons (okl_hd (okl_tl hs)) hs)) hR)
    · exact FR_none
  case pop =>
    split
    · exact FR_ite (fun _ => FR_nx hl (okl_tl hs) hR)
    · exact FR_none
  case ifCond =>
    split
    · exact fr_if hl (okl_tl hs) hR
    · exact FR_none
  case if_icmp =>
    split
    · exact fr_if hl (okl_tl (okl_tl hs)) hR
    · exact FR_none
  case tableswitch df lo hi offs =>
    rcases st with _ | ⟨v, r⟩
    · exact FR_none
    · cases v <;> first
        | exact FR_none
        | skip
      rename_i x
      refine FR_ite2 (fun _ => FR_nx hl (okl_tl hs) hR) (fun _ => ?_)
      cases h : offs[(x.toInt - lo).toNat]? with
      | none => exact FR_none
      | some off => exact FR_nx hl (okl_tl hs) hR
  case lookupswitch =>
    split
    · exact FR_nx hl (okl_tl hs) hR
    · exact FR_none
  case invokespecial =>
    refine FR_ite (fun _ => ?_)
    split
    · exact FR_ite (fun _ => FR_nx hl (okl_tl hs) hR)
    · exact FR_none
theorem fr_recv {a o : Nat} (h : okv (.ref o)) : tm_recv a o (sA I J R c) = tm_recv a o (sB I J R c) := by
  unfold tm_recv
  dsimp only
  rw [(ok_get h).1]
theorem fr_call {a n md : Nat} {q : List Value × List Value} (hk : tm_mc k = 0) (hl : okl ls) (hs : okl st) (h : tm_call k a n md ls st (sB I J R c) = some q) : tm_call k a n md ls st (sA I J R c) = some q ∧ okl q.1 ∧ okl q.2 ∧ tm_mc a = 0 := by
  unfold tm_call at h ⊢
  by_cases hm : md = 1
  · rw [if_pos hm] at h ⊢
    split at h
    · rename_i g
      cases h
      obtain ⟨g1, g2, g3, g4, g5, g6, g7⟩ := g
      have ha : tm_mc a = 0 := by omega
      exact ⟨if_pos ⟨Or.inl ha, g2, g3, g4, g5, g6, g7⟩, okl_rev (okl_take hs _), okl_drop hs _, ha⟩
    · cases h
  · rw [if_neg hm] at h ⊢
    have hd := okl_drop hs n
    generalize st.drop n = w at h hd ⊢
    rcases w with _ | ⟨v, r⟩
    · cases h
    · cases v <;> first
        | cases h
        | skip
      rename_i o
      dsimp only at h ⊢
      rw [fr_recv (okl_hd hd)]
      split at h
      · rename_i g
        cases h
        obtain ⟨g1, g2, g3, g4, g5, g6, g7, g8⟩ := g
        have ha : tm_mc a = 0 := by omega
        exact ⟨if_pos ⟨Or.inl ha, g2, g3, g4, g5, g6, g7, g8⟩, okl_cons (okl_hd hd) (okl_rev (okl_take hs _)), okl_tl hd, ha⟩
      · cases h
theorem okl_push {r : Option Int32} (h : okl st) : okl (tm_push r st) := by
  cases r with
  | none => exact h
  | some x => exact okl_cons okv_int h
end M5
theorem fr_run {E : tm_Env} : ∀ (n : Nat) {k pc : Nat} {ls st : List Value} {I : Nat → Nat → Int32} {J : Nat → Nat → Int64} {R : Nat → Nat → Option Nat} {c : Nat × Nat} {r : Option Int32 × tm_St}, tm_mc k = 0 → okl ls → okl st → okR R → tm_run E n k pc ls st (sB I J R c) = some r → ∃ I' J' R' c', r.2 = sB I' J' R' c' ∧ tm_run E n k pc ls st (sA I J R c) = some (r.1, sA I' J' R' c') ∧ okR R' := by
  intro n
  induction n with
  | zero => intro k pc ls st I J R c r _ _ _ _ h; cases h
  | succ n ih =>
    intro k pc ls st I J R c r hk hl hs hR h
    rw [tm_run] at h ⊢
    split at h
    · cases h
    · rename_i x hp
      split at h
      · rename_i hc
        rw [if_pos hc]
        split at h
        · cases h
        · rename_i q hq
          obtain ⟨f1, f2, f3, f4⟩ := fr_call hk hl hs hq
          rw [f1]
          dsimp only
          split at h
          · cases h
          · rename_i z hz
            obtain ⟨I1, J1, R1, c1, e1, e2, e3⟩ := ih f4 (okl_ent f2) okl_nil hR (c := (0, 0)) hz
            have e2' : tm_run E n x.2.2.1 0 (tm_ent x.2.2.1 q.1) [] ((sA I J R c).1, 0, 0) = some (z.1, sA I1 J1 R1 c1) := e2
            rw [e2']
            dsimp only
            rw [e1] at h
            exact ih hk hl (okl_push f3) e3 h
      · rename_i hc
        rw [if_neg hc]
        split at h
        · rename_i hr
          rw [if_pos hr]
          split at h
          · cases h
          · cases h
            exact ⟨I, J, R, c, rfl, rfl, hR⟩
        · rename_i hr
          rw [if_neg hr]
          split at h
          · cases h
          · rename_i z hz
            obtain ⟨I1, J1, R1, c1, e1, e2, e3, e4, e5⟩ := fr_exec hk hl hs hR z hz
            rw [e2]
            dsimp only
            rw [e1] at h
            exact ih hk e3 e4 e5 h
theorem bigR_inj {R : Nat → Nat → Option Nat} {k j : Nat} (h : k < 56) : bigR R k j = R k j := if_pos h
/-- a method that makes nothing does in the memory cut off what it does in the whole one -/
theorem tEv_small {E : tm_Env} {k : Nat} {ls : List Value} {I I' : Nat → Nat → Int32} {J J' : Nat → Nat → Int64} {R X : Nat → Nat → Option Nat} {v : Option Int32} (hk : tm_mc k = 0) (hl : okl ls) (hR : okR R) (h : tEv E k 0 ls [] (mS I J (bigR R)) (fun r S => r = v ∧ S = mS I' J' X)) :
    ∃ R', okR R' ∧ bigR R' = X ∧ ∀ Q : Option Int32 → tm_St → Prop, Q v ((tL.take 56, I', J', R'), 0, 0) → tEv E k 0 ls [] ((tL.take 56, I, J, R), 0, 0) Q := by
  obtain ⟨n, r, h1, h2, h3⟩ := h
  obtain ⟨I1, J1, R1, c1, e1, e2, e3⟩ := fr_run n hk hl okl_nil hR (c := (0, 0)) h1
  rw [h3] at e1
  cases e1
  refine ⟨R1, e3, rfl, fun Q hQ => ⟨n, _, e2, ?_⟩⟩
  rw [h2]
  exact hQ
