theorem ti_call {k a n md : Nat} {ls st : List Value} {S : tm_St} {c : List Value × List Value} (h : tm_call k a n md ls st S = some c) :
    (tm_mc a = 0 ∨ tm_vb S.1.1.length (ls ++ st) = true) ∧ tm_sum c.2 ≤ 8 ∧ (tm_exp c.1).length ≤ tm_x a ∧ (tm_hl a = true ∨ tm_n2 c.1 = true) ∧ S.2.1 + tm_mc a ≤ tm_mc k ∧ S.2.2 + tm_ms a ≤ tm_ms k ∧
      ((md = 1 ∧ c.1.length = n ∧ st = c.1.reverse ++ c.2) ∨ (md ≠ 1 ∧ ∃ o as, c.1 = .ref o :: as ∧ as.length = n ∧ st = as.reverse ++ .ref o :: c.2 ∧ tm_recv a o S = true)) := by
  unfold tm_call at h
  split at h
  · rename_i hm
    split at h
    · rename_i q
      obtain ⟨q1, q2, q3, q4, q5, q6, q7⟩ := q
      cases h
      exact ⟨q1, q3, q4, q5, q6, q7, Or.inl ⟨hm, by rw [List.length_reverse]; exact q2, by rw [List.reverse_reverse, List.take_append_drop]⟩⟩
    · cases h
  · rename_i hm
    split at h
    · rename_i o r hdr
      split at h
      · rename_i q
        obtain ⟨q1, q2, q3, q4, q5, q6, q7, q8⟩ := q
        cases h
        exact ⟨q1, q3, q4, q5, q7, q8, Or.inr ⟨hm, o, (st.take n).reverse, rfl, by rw [List.length_reverse]; exact q2, by rw [List.reverse_reverse, ← hdr, List.take_append_drop], q6⟩⟩
      · cases h
    · cases h
theorem tm_c_recv {E : tm_Env} {a o : Nat} {S : tm_St} {D : va_G} {A : Nat → Prop} {ad : Nat → Nat} {cf : Nat → ClassId} {tys : List (ClassId × FieldType)} {fm : Value} {H : Heap} {s : State} {locs : List Loc} (h : tm_recv a o S = true) (hks : a ∈ tm_ks) (F : tm_SF E ad fm A s s.heap) (hR : tm_Rel D A S.1 ad cf tys H s) (hS : va_S A s.heap H locs) : ∃ cellB : Cell, H[ad o]? = some cellB ∧ cellB.vm.isStatics = false ∧ s.vm.findClass (tm_y a).cls = some cellB.cls := by
  unfold tm_recv at h
  rw [tm_cls a hks]
  split at h
  · rename_i ho
    have h13 : tm_o a = 13 := by simpa using h
    rw [h13]
    obtain ⟨j, hj, rfl⟩ : ∃ j, j < 3 ∧ o = 1000 + j := ⟨o - 1000, by omega, by omega⟩
    exact vk_recv (i := j) F.1 hj hS
  · split at h
    · rename_i ci n hL
      obtain ⟨h12, hc⟩ := of_decide_eq_true h
      have hg := tm_W_get (ad := ad) (cf := cf) hL
      rw [tm_en_o h12] at hg
      have := va_recv hR.1 hR.2.1 (tm_clf h12) hg
      rw [← hc]
      exact this
    · cases h
set_option maxHeartbeats 4000000 in
set_option maxRecDepth 100000 in
/-- behind a call -/
theorem tm_after {E : tm_Env} {n k a pc : Nat} {ls rest : List Value} {S S' : tm_St} {r : Option Int32} {q : Option Int32 × tm_St} (IH : tm_Sound E n) (hrun : tm_run E n k (pc + 3) ls (tm_push q.1 rest) (q.2.1, S.2.1 + tm_mc a, S.2.2 + tm_ms a) = some (r, S'))
    {p : Program} {l : Launch} {e : Env} {s : State} {m : MethodId} {args : Array Value} {below : List Frame} {meth : Method} {c : Code} {D : va_G} {A : Nat → Prop} {H : Heap} {locs : List Loc} {ad : Nat → Nat} {cf : Nat → ClassId} {tys : List (ClassId × FieldType)} {fm : Value} {Q : State → Prop} {lsR : Array Slot} {av : Array Value} {st0 : List Value}
    (C : tm_Ctx p k s m args meth c) (F : tm_SF E ad fm A s s.heap) (hA : ∀ q, s.heap.size ≤ q → A q) (hR : tm_Rel D A S.1 ad cf tys H s) (hS : va_S A s.heap H locs) (hl : lv_has lsR (tm_x k) (tm_lv ad fm ls)) (hn : ls.length = tm_x k) (hN : tm_nl k ls) (hc1 : S.2.1 + tm_mc a ≤ tm_mc k) (hc2 : S.2.2 + tm_ms a ≤ tm_ms k)
    (hvb : tm_mc a = 0 ∨ tm_vb S.1.1.length (ls ++ rest) = true)
    (kont : ∀ (ad' : Nat → Nat) (cf' : Nat → ClassId) (tys' : List (ClassId × FieldType)) (H' : Heap) (locs' : List Loc) (lsR' : Array Slot) (pc' : Nat), tm_ext S.1 S'.1 ad cf ad' cf' → S'.1.1.length + S.2.1 ≤ S.1.1.length + S'.2.1 → S'.2.1 ≤ tm_mc k → S'.2.2 ≤ tm_ms k → tm_Rel D A S'.1 ad' cf' tys' H' s → va_S A s.heap H' locs' → tm_endOk k pc' r → W p l e (tm_room k) s m args below meth c H' locs' S'.2.1 S'.2.2 Q (F0 m pc' lsR' (tm_push r [])))
    (hr : va_Run p l e (tm_room k) s m args below meth c H locs S.2.1 S.2.2 (tm_mc a) (tm_ms a) (F0 m pc lsR st0) (rest.map (tm_tr ad fm)) (tm_QQ D S.1 q.2.1 ad cf H.size (tm_mc a) q.1 av) (va_A (tm_W ad cf S.1) H.size)) :
    W p l e (tm_room k) s m args below meth c H locs S.2.1 S.2.2 Q (F0 m pc lsR st0) := by
  have hfree : ∀ z, va_A (tm_W ad cf S.1) H.size z → A z := by
    intro z hz
    rcases hz with ⟨j, e, hj⟩ | hz
    · exact hR.2.2.1.2 j (z, e) hj
    · exact hA z (Nat.le_trans hS.1 hz)
  have go : ∀ (u : (Nat → Nat) × (Nat → ClassId) × List (ClassId × FieldType)) (t : State) (H1 : Heap) (locs1 : List Loc), t.heap = H1 → s.vm.Alike t.vm → tm_Post D S.1 q.2.1 ad cf H.size (tm_mc a) u t → H.size ≤ H1.size → va_S A s.heap H1 locs1 → W p l e (tm_room k) s m args below meth c H1 locs1 (S.2.1 + tm_mc a) (S.2.2 + tm_ms a) Q (F0 m (pc + 3) lsR ((tm_push q.1 rest).map (tm_tr ad fm))) := by
    intro u t H1 locs1 ht hvm hB hz1 hS1
    obtain ⟨hext, hlen, hR1⟩ := hB
    rw [ht] at hR1
    have hR2 := tm_Rel_weak hfree (tm_Rel_moved hvm.symm hR1)
    have hF2 : tm_SF E u.1 fm A s s.heap := tm_SF_ad (fun j hj => (hext.1 j (Or.inr hj)).1) F
    have hlv : lv_has lsR (tm_x k) (tm_lv u.1 fm ls) ∧ rest.map (tm_tr u.1 fm) = rest.map (tm_tr ad fm) := by
      rcases hvb with h0 | hvb
      · have l2 := hext.2.1
        have e := (hext.2.2 (by omega)).1
        rw [e]
        exact ⟨hl, rfl⟩
      · obtain ⟨v1, v2⟩ := tm_vb_app hvb
        exact ⟨tm_lv_ad hl v1 (fun j hj => (hext.1 j hj).1), tm_st_ad v2 (fun j hj => (hext.1 j hj).1)⟩
    have key := IH k (pc + 3) ls (tm_push q.1 rest) (q.2.1, S.2.1 + tm_mc a, S.2.2 + tm_ms a) r S' hrun C hF2 hA hR2 hS1 hlv.1 hn hN hc1 hc2 (fun ad' cf' tys' H' locs' lsR' pc' h1 h2 h3 h4 h5 h6 h7 => kont ad' cf' tys' H' locs' lsR' pc' (tm_ext_tr hext h1) (by
      have : S'.1.1.length + (S.2.1 + tm_mc a) ≤ q.2.1.1.length + S'.2.1 := h2
      omega) h3 h4 h5 h6 h7)
    have e3 : (tm_push q.1 rest).map (tm_tr u.1 fm) = (tm_push q.1 rest).map (tm_tr ad fm) := by
      cases q.1 with
      | none => exact hlv.2
      | some x => show _ :: _ = _ :: _; rw [hlv.2]; rfl
    rw [e3] at key
    exact key
  obtain ⟨q1, q2⟩ := q
  cases q1 with
  | some x => exact va_calli (a := av) hr hS (fun z _ h => hfree z h) hfree (fun y u t H1 locs1 ht hvm hp hB hz1 _ hS1 => by rw [hp]; exact go u t H1 locs1 ht hvm hB hz1 hS1)
  | none => exact va_callv (a := av) hr hS (fun z _ h => hfree z h) hfree (fun u t H1 locs1 ht hvm _ hB hz1 _ hS1 => go u t H1 locs1 ht hvm hB hz1 hS1)
set_option maxHeartbeats 4000000 in
set_option maxRecDepth 100000 in
theorem tm_sound (E : tm_Env) : ∀ n, tm_Sound E n := by
  intro n
  induction n with
  | zero => intro k pc ls st S r S' h; cases h
  | succ n IH =>
    intro k pc ls st S r S' h p l e s m args below meth c D A H locs ad cf tys fm Q lsR C F hA hR hS hl hn hN hc1 hc2 kont
    rw [tm_run] at h
    split at h
    · cases h
    · rename_i x hp
      split at h
      · rename_i hcall
        split at h
        · cases h
        · rename_i cc hcc
          split at h
          · cases h
          · rename_i q hq
            obtain ⟨i, ln, a, b, c', d⟩ := x
            dsimp only at hcc hq h
            obtain ⟨hk, hok, hxk⟩ := tm_prog_ok hp
            simp only [tm_ok, Bool.and_eq_true] at hxk
            obtain ⟨hd0, hlk⟩ := hxk
            have hd := of_decide_eq_true hd0
            clear hd0
            obtain ⟨hx, hb, hml, hr, hown, hts, hlocks, hinit⟩ := id C
            obtain ⟨g1, g2, g3, g4, g5, g6, g7⟩ := ti_call hcc
            have hfree : ∀ z, va_A (tm_W ad cf S.1) H.size z → A z := by
              intro z hz
              rcases hz with ⟨j, e, hj⟩ | hz
              · exact hR.2.2.1.2 j (z, e) hj
              · exact hA z (Nat.le_trans hS.1 hz)
            have hpre : ∀ U : State, U.heap = H → s.WarmedH U.vm → tm_Pre E D S.1 ad cf fm tys H.size U := by
              intro U hU hW
              refine ⟨by rw [hU], ?_, ?_⟩
              · rw [hU]; exact tm_Rel_moved hW.alike (tm_Rel_self hR)
              · rw [hU]; exact tm_SF_narrow hfree (tm_SF_warm hW (tm_SF_kept hS.1 hS.2.1 F))
            have hsum : 2 * (F0 m pc lsR (st.map (tm_tr ad fm))).monitorRoom + ((cc.2.map (tm_tr ad fm)).map fun v => v.category).sum ≤ 8 := by
              rw [tm_sum_map F.2.2.2.1]
              show 2 * 0 + _ ≤ 8
              omega
            have hvb : tm_mc a = 0 ∨ tm_vb S.1.1.length (ls ++ cc.2) = true := by
              rcases g1 with g1 | g1
              · exact Or.inl g1
              · refine Or.inr ?_
                obtain ⟨v1, v2⟩ := tm_vb_app g1
                unfold tm_vb at v1 ⊢
                rw [List.all_append, Bool.and_eq_true]
                refine ⟨v1, ?_⟩
                rcases g7 with ⟨-, -, e⟩ | ⟨-, o, as, -, -, e, -⟩
                · rw [e] at v2; exact (tm_vb_app v2).2
                · rw [e] at v2; exact (tm_vb_app (a := [.ref o]) (tm_vb_app v2).2).2
            cases i with
            | invokevirtual idx =>
              simp only [tm_isc, beq_iff_eq] at hcall
              simp only [tm_lnk, hcall, Bool.and_eq_true, beq_iff_eq, decide_eq_true_eq, bne_self_eq_false, Bool.false_or] at hlk
              obtain ⟨rfl, ⟨hw, hkd⟩, ha0, haN, hbp, hff, hll⟩ := hlk
              have hks := tm_mem_ks ha0 haN
              have hM := tm_met IH ha0 haN hq g3 g4 l D ad cf fm tys H.size
              have hwm : (Cond.methodLink (tm_cn (tm_o k)) idx (tm_y a)).before args s = true := hts _ (tm_inw (tm_M_in _ (List.mem_of_getElem? hw)) rfl)
              rcases g7 with ⟨hm, -⟩ | ⟨-, o, as, e1, e2, e3, hrc⟩
              · exact absurd hm (by omega)
              · have hki := (tm_kd_in hks).1 hkd
                have hB := callB_of (R := tm_room k) (rm := tm_room a) (own := tm_cn (tm_o k)) (index := idx) b hts (tm_gw ha0 haN) rfl rfl rfl (hts _ (tm_inw (tm_ini_in a hks) rfl)) hwm (by rw [hbp]; exact tm_nm a hks) ⟨hff, hll⟩
                rw [e1] at hM
                refine tm_after IH h C F hA hR hS hl hn hN g5 g6 hvb kont (va_runV (C := (tm_y a).cls) (b := ad o) (As := as.map (tm_tr ad fm)) ⟨hx, hb, hml, hown, hts⟩ hM ⟨hB, hts _ (tm_inw (tm_inst_in a hki.2) rfl), hts _ (tm_inw (tm_sel_in a hki.1) rfl)⟩ ⟨tm_blind, tm_c_recv hrc hks F hR hS, fun U hU hW => ⟨rfl, hpre U hU hW⟩⟩ rfl (by rw [List.length_map]; exact e2) hl.1 ?_ hsum hd ⟨g5, g6⟩)
                show st.map (tm_tr ad fm) = _
                rw [e3, List.map_append, List.map_reverse, List.map_cons]
                rfl
            | invokestatic idx =>
              simp only [tm_isc, beq_iff_eq] at hcall
              simp only [tm_lnk, hcall, Bool.and_eq_true, Bool.or_eq_true, beq_iff_eq, decide_eq_true_eq, BEq.rfl, Bool.not_true, Bool.false_or, Bool.false_eq_true, false_or] at hlk
              obtain ⟨⟨⟨⟨rfl, ⟨hw, hkd⟩, ha0, haN, hbp, hff, hll⟩, -⟩, -⟩, -⟩ := hlk
              have hks := tm_mem_ks ha0 haN
              have hM := tm_met IH ha0 haN hq g3 g4 l D ad cf fm tys H.size
              rcases g7 with ⟨-, e2, e3⟩ | ⟨hm, -⟩
              · have hst : (F0 m pc lsR (st.map (tm_tr ad fm))).stack = (cc.1.map (tm_tr ad fm)).reverse ++ cc.2.map (tm_tr ad fm) := by
                  show st.map (tm_tr ad fm) = _
                  rw [e3, List.map_append, List.map_reverse]
                rcases hw with hw | hw
                · have hwm : (Cond.methodLink (tm_cn (tm_o k)) idx (tm_y a)).before args s = true := hts _ (tm_inw (tm_M_in _ (List.mem_of_getElem? hw)) rfl)
                  have hB := callB_of (R := tm_room k) (rm := tm_room a) (own := tm_cn (tm_o k)) (index := idx) b hts (tm_gw ha0 haN) rfl rfl rfl (hts _ (tm_inw (tm_ini_in a hks) rfl)) hwm (by rw [hbp]; exact tm_nm a hks) ⟨hff, hll⟩
                  exact tm_after IH h C F hA hR hS hl hn hN g5 g6 hvb kont (va_runS (As := cc.1.map (tm_tr ad fm)) ⟨hx, hb, hml, hown, hts⟩ hM ⟨hB, hts _ (tm_inw (tm_stat_in a ((tm_kd_in hks).2.1 hkd)) rfl)⟩ ⟨tm_blind, fun U hU hW => ⟨rfl, hpre U hU hW⟩⟩ rfl (by rw [List.length_map]; exact e2) hl.1 hst hsum hd ⟨g5, g6⟩)
                · have hwm := F.2.2.2.2.2.2.2.2.2.2.2 _ (List.mem_of_getElem? hw) rfl
                  have hB := va_cnB (R := tm_room k) (rm := tm_room a) (own := tm_cn (tm_o k)) (index := idx) (host := RX10) b hts (tm_gw ha0 haN) rfl rfl rfl hwm (hts _ (tm_inw (tm_ini_in a hks) rfl)) (by rw [hbp]; exact tm_nm a hks) ⟨hff, hll⟩
                  exact tm_after IH h C F hA hR hS hl hn hN g5 g6 hvb kont (va_runSN (As := cc.1.map (tm_tr ad fm)) ⟨hx, hb, hml, hown, hts⟩ hM ⟨hB, hts _ (tm_inw (tm_stat_in a ((tm_kd_in hks).2.1 hkd)) rfl), trivial⟩ ⟨tm_blind, fun U hU hW => ⟨rfl, hpre U hU hW⟩⟩ rfl (by rw [List.length_map]; exact e2) hl.1 hst hsum hd ⟨g5, g6⟩)
              · exact absurd hcall hm
            | invokespecial idx =>
              simp only [tm_isc, beq_iff_eq] at hcall
              simp only [tm_lnk, hcall, Bool.and_eq_true, Bool.or_eq_true, beq_iff_eq, decide_eq_true_eq, BEq.rfl, Bool.not_true, Bool.false_or, Bool.false_eq_true, false_or] at hlk
              obtain ⟨⟨rfl, ⟨hw, hkd⟩, ha0, haN, hbp, hff, hll⟩, -⟩ := hlk
              have hks := tm_mem_ks ha0 haN
              have hM := tm_met IH ha0 haN hq g3 g4 l D ad cf fm tys H.size
              rcases g7 with ⟨hm, -⟩ | ⟨-, o, as, e1, e2, e3, hrc⟩
              · exact absurd hm (by omega)
              · have hst : (F0 m pc lsR (st.map (tm_tr ad fm))).stack = (as.map (tm_tr ad fm)).reverse ++ .ref (ad o) :: cc.2.map (tm_tr ad fm) := by
                  show st.map (tm_tr ad fm) = _
                  rw [e3, List.map_append, List.map_reverse, List.map_cons]
                  rfl
                have hwds : tm_words a = Cond.code (tm_y a) (tm_b a) (tm_x a) none :: tm_ws := by
                  unfold tm_words; rw [tm_ks_t hks hkd]
                have hini := hts _ (tm_inw (tm_inst_in a ((tm_kd_in hks).2.2 hkd)) rfl)
                rw [e1] at hM
                rcases hw with hw | hw
                · have hwm : (Cond.methodLink (tm_cn (tm_o k)) idx (tm_y a)).before args s = true := hts _ (tm_inw (tm_M_in _ (List.mem_of_getElem? hw)) rfl)
                  have hB := callB_of (R := tm_room k) (rm := tm_room a) (own := tm_cn (tm_o k)) (index := idx) b hts (tm_gw ha0 haN) hwds rfl rfl (hts _ (tm_inw (tm_ini_in a hks) rfl)) hwm (by rw [hbp]; exact tm_nm a hks) ⟨hff, hll⟩
                  exact tm_after IH h C F hA hR hS hl hn hN g5 g6 hvb kont (va_runI (b := ad o) (As := as.map (tm_tr ad fm)) ⟨hx, hb, hml, hown, hts⟩ hM ⟨hB, tm_ki2 a hks hkd, hini⟩ ⟨tm_blind, fun U hU hW => ⟨rfl, hpre U hU hW⟩⟩ rfl (by rw [List.length_map]; exact e2) hl.1 hst hsum hd ⟨g5, g6⟩)
                · have hwm := F.2.2.2.2.2.2.2.2.2.2.2 _ (List.mem_of_getElem? hw) rfl
                  have hB := va_cnB (R := tm_room k) (rm := tm_room a) (own := tm_cn (tm_o k)) (index := idx) (host := RX10) b hts (tm_gw ha0 haN) hwds rfl rfl hwm (hts _ (tm_inw (tm_ini_in a hks) rfl)) (by rw [hbp]; exact tm_nm a hks) ⟨hff, hll⟩
                  exact tm_after IH h C F hA hR hS hl hn hN g5 g6 hvb kont (va_runIN (b := ad o) (As := as.map (tm_tr ad fm)) ⟨hx, hb, hml, hown, hts⟩ hM ⟨hB, tm_ki2 a hks hkd, hini⟩ ⟨tm_blind, fun U hU hW => ⟨rfl, hpre U hU hW⟩⟩ rfl (by rw [List.length_map]; exact e2) hl.1 hst hsum hd ⟨g5, g6⟩)
            | _ => cases hcall
      · split at h
        · split at h
          · cases h
          · rename_i r1 hret
            cases h
            obtain ⟨e1, e2⟩ := ti_ret hp hret
            have e3 : st.map (tm_tr ad fm) = tm_push r [] := by
              rw [e1]
              cases r <;> rfl
            rw [e3]
            exact kont ad cf tys H locs lsR pc (tm_ext_rf rfl) (Nat.le_refl _) hc1 hc2 hR hS e2
        · split at h
          · cases h
          · rename_i z hz
            refine tm_step hp hz C F hA hR hS hl hn hN hc1 hc2 ?_
            intro ad' cf' tys' H' locs' lsR' hext hcnt q1 q2 hR' hS' hl' hn' hN'
            refine IH k z.1 z.2.1 z.2.2.1 z.2.2.2 r S' h C (tm_SF_ad (fun j hj => (hext.1 j (Or.inr hj)).1) F) hA hR' hS' hl' hn' hN' q1 q2 ?_
            intro ad2 cf2 tys2 H2 locs2 lsR2 pc2 h1 h2 h3 h4 h5 h6 h7
            exact kont ad2 cf2 tys2 H2 locs2 lsR2 pc2 (tm_ext_tr hext h1) (by omega) h3 h4 h5 h6 h7
