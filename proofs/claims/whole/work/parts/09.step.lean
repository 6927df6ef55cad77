/-! ===== one step of the small machine is one of the machine ===== -/
theorem tm_clf : ∀ {ci : Nat}, ci < 12 → (tm_cl[ci]? = some (tm_cn ci, tm_T ci, tm_nf ci))
  | 0, _ => rfl
  | 1, _ => rfl
  | 2, _ => rfl
  | 3, _ => rfl
  | 4, _ => rfl
  | 5, _ => rfl
  | 6, _ => rfl
  | 7, _ => rfl
  | 8, _ => rfl
  | 9, _ => rfl
  | 10, _ => rfl
  | 11, _ => rfl
  | n + 12, h => absurd h (by omega)
theorem tm_tyf : ∀ {ci : Nat}, ci < 12 → (∀ j, j < tm_nf ci → parseFieldDescriptor (tm_T ci j).2.2.1 = some (tm_ty ci j))
  | 0, _ => tyX0_ok
  | 1, _ => tyX1_ok
  | 2, _ => tyX2_ok
  | 3, _ => tyX3_ok
  | 4, _ => tyX4_ok
  | 5, _ => tyX5_ok
  | 6, _ => tyX6_ok
  | 7, _ => tyX7_ok
  | 8, _ => tyX8_ok
  | 9, _ => tyX9_ok
  | 10, _ => tyX10_ok
  | 11, _ => tyX11_ok
  | n + 12, h => absurd h (by omega)
theorem tm_nmf : ∀ {ci : Nat}, ci < 12 → (∀ a, a < tm_nf ci → ∀ b, b < tm_nf ci → a ≠ b → (tm_T ci a).2.1 ≠ (tm_T ci b).2.1)
  | 0, _ => nmX0
  | 1, _ => nmX1
  | 2, _ => nmX2
  | 3, _ => nmX3
  | 4, _ => nmX4
  | 5, _ => nmX5
  | 6, _ => nmX6
  | 7, _ => nmX7
  | 8, _ => nmX8
  | 9, _ => nmX9
  | 10, _ => nmX10
  | 11, _ => nmX11
  | n + 12, h => absurd h (by omega)
theorem tm_layf {ci : Nat} (h : ci < 12) : ∀ w ∈ u_ws (tm_cn ci) (tm_T ci) (tm_nf ci), w ∈ tm_ws := by
  intro w hw
  obtain ⟨j, hj, rfl⟩ := List.mem_map.mp hw
  have hj := List.mem_range.mp hj
  have h1 : (List.range 12).all (fun c => (List.range (tm_nf c)).all (fun j => decide ((c, j) ∈ tm_ul))) = true := by decide +kernel
  have h2 := of_decide_eq_true (List.all_eq_true.mp (List.all_eq_true.mp h1 ci (List.mem_range.mpr h)) j (List.mem_range.mpr hj))
  refine tm_inw (tm_lay_in _ h2) ?_
  unfold u_lay
  split <;> rfl
theorem tm_F_ok {e : Nat × Nat × Nat × Nat × Nat} (h : e ∈ tm_F) : e.2.2.1 < 12 ∧ e.2.2.2.1 < tm_nf e.2.2.1 := by
  have h1 : tm_F.all (fun e => decide (e.2.2.1 < 12 ∧ e.2.2.2.1 < tm_nf e.2.2.1)) = true := by decide +kernel
  exact of_decide_eq_true (List.all_eq_true.mp h1 e h)
theorem tm_fs_get {ad : Nat → Nat} {M : tm_Mem} {o ci b : Nat} (hb : b < tm_nf ci) : (tm_fs ad M o ci)[b]? = some (tm_fv ad M o ci b) := by
  simp [tm_fs, hb]
theorem tm_fs_len {ad : Nat → Nat} {M : tm_Mem} {o ci : Nat} : (tm_fs ad M o ci).length = tm_nf ci := by simp [tm_fs]
theorem tm_fs_seti {ad : Nat → Nat} {M M' : tm_Mem} {o ci b : Nat} {x : Int32} (hb : b < tm_nf ci) (hr : tm_isr ci b = false) (hI : M'.2.1 o = upd (M.2.1 o) b x) (hR : M'.2.2.2 o = M.2.2.2 o) : (tm_fs ad M o ci).set b (.int x) = tm_fs ad M' o ci := by
  apply List.ext_getElem?
  intro j
  by_cases hj : j < tm_nf ci
  · rw [tm_fs_get hj]
    by_cases e : j = b
    · subst e
      rw [List.getElem?_set_self (by rw [tm_fs_len]; exact hb)]
      simp [tm_fv, hr, hI, upd]
    · rw [List.getElem?_set_ne (Ne.symm e), tm_fs_get hj]
      simp [tm_fv, hI, hR, upd, e]
  · rw [List.getElem?_eq_none (by rw [List.length_set, tm_fs_len]; omega), List.getElem?_eq_none (by rw [tm_fs_len]; omega)]
theorem tm_fs_setr {ad : Nat → Nat} {M M' : tm_Mem} {o ci b x : Nat} (hb : b < tm_nf ci) (hr : tm_isr ci b = true) (hI : M'.2.1 o = M.2.1 o) (hR : M'.2.2.2 o = va_up (M.2.2.2 o) b (some x)) : (tm_fs ad M o ci).set b (.ref (ad x)) = tm_fs ad M' o ci := by
  apply List.ext_getElem?
  intro j
  by_cases hj : j < tm_nf ci
  · rw [tm_fs_get hj]
    by_cases e : j = b
    · subst e
      rw [List.getElem?_set_self (by rw [tm_fs_len]; exact hb)]
      simp [tm_fv, hr, hR, va_up, va_rf]
    · rw [List.getElem?_set_ne (Ne.symm e), tm_fs_get hj]
      simp [tm_fv, hI, hR, va_up, e]
  · rw [List.getElem?_eq_none (by rw [List.length_set, tm_fs_len]; omega), List.getElem?_eq_none (by rw [tm_fs_len]; omega)]
theorem tm_up_s {α : Type} {f : Nat → α} {k : Nat} {v : α} : va_up f k v k = v := by simp [va_up]
theorem tm_up_n {α : Type} {f : Nat → α} {k j : Nat} {v : α} (h : j ≠ k) : va_up f k v j = f j := by simp [va_up, h]
theorem tm_isr_ty {ci b : Nat} (hc : ci < 12) (hb : b < tm_nf ci) (h : tm_isr ci b = true) (a : Nat) : narrow (tm_ty ci b) (.ref a) = .ref a ∧ fits (tm_ty ci b) (.ref a) = true := by
  have h1 : (List.range 12).all (fun c => (List.range (tm_nf c)).all (fun j => match tm_ty c j with
    | .int => true
    | .boolean => true
    | .object _ => true
    | .array _ => true
    | _ => false)) = true := by decide +kernel
  have h2 := List.all_eq_true.mp (List.all_eq_true.mp h1 ci (List.mem_range.mpr hc)) b (List.mem_range.mpr hb)
  unfold tm_isr at h
  cases ht : tm_ty ci b <;> rw [ht] at h h2 <;> first | exact ⟨rfl, rfl⟩ | exact Bool.noConfusion h | exact Bool.noConfusion h2
theorem tm_isr_i {ci b : Nat} (h : tm_isr ci b = false) {x : Int32} (hn : vp_nar (tm_ty ci b) x = x) : narrow (tm_ty ci b) (.int x) = .int x := by
  unfold tm_isr at h
  unfold vp_nar at hn
  cases ht : tm_ty ci b <;> rw [ht] at h hn <;> first | rfl | exact congrArg Value.int hn | exact Bool.noConfusion h
/-- a new cell behind the others -/
theorem tm_W_push {ad ad' : Nat → Nat} {cf cf' : Nat → ClassId} {M M' : tm_Mem} {sh : Nat × Nat} (hL : M'.1 = M.1 ++ [sh]) (hI : ∀ k, k < M.1.length → M'.2.1 k = M.2.1 k) (hJ : ∀ k, k < M.1.length → M'.2.2.1 k = M.2.2.1 k) (hR : ∀ k, k < M.1.length → M'.2.2.2 k = M.2.2.2 k)
    (ha : ∀ k, k < M.1.length → ad' k = ad k ∧ cf' k = cf k) (hw : ∀ k j a, M.2.2.2 k j = some a → a < M.1.length) : tm_W ad' cf' M' = tm_W ad cf M ++ [tm_en ad' cf' M' M.1.length sh] := by
  rw [tm_W, hL, List.mapIdx_append, tm_W]
  have e0 : List.mapIdx (fun i => tm_en ad' cf' M' (i + M.1.length)) [sh] = [tm_en ad' cf' M' M.1.length sh] := by simp
  rw [e0]
  congr 1
  apply List.ext_getElem?
  intro k
  rw [List.getElem?_mapIdx, List.getElem?_mapIdx]
  cases hk : M.1[k]? with
  | none => rfl
  | some s =>
    have hk2 : k < M.1.length := (List.getElem?_eq_some_iff.mp hk).1
    have hmap : ∀ j, (M.2.2.2 k j).map ad' = (M.2.2.2 k j).map ad := by
      intro j
      cases hr : M.2.2.2 k j with
      | none => rfl
      | some a => exact congrArg some (ha a (hw k j a hr)).1
    have e2 : tm_fv ad' M' k = tm_fv ad M k := by
      funext ci j
      unfold tm_fv
      rw [hI k hk2, hR k hk2, hmap]
    show some (tm_en ad' cf' M' k s) = some (tm_en ad cf M k s)
    unfold tm_en tm_fs
    rw [e2, hI k hk2, hJ k hk2, hR k hk2, (ha k hk2).1, (ha k hk2).2]
    simp only [hmap]

theorem tm_cat1 {ad : Nat → Nat} {fm v : Value} (hf : fm.category = 1) (h : v.category = 1) : (tm_tr ad fm v).category = 1 := by
  cases v with
  | retAddr a => exact hf
  | _ => exact h
theorem tm_cat_eq {ad : Nat → Nat} {fm v : Value} (hf : fm.category = 1) : (tm_tr ad fm v).category = v.category := by
  cases v with
  | retAddr a => exact hf
  | _ => rfl
theorem tm_sum_map {ad : Nat → Nat} {fm : Value} (hf : fm.category = 1) (st : List Value) : ((st.map (tm_tr ad fm)).map fun v => v.category).sum = tm_sum st := by
  unfold tm_sum
  rw [List.map_map]
  congr 1
  apply List.map_congr_left
  intro v _
  exact tm_cat_eq hf
theorem tm_sum_ok {ad : Nat → Nat} {fm : Value} {k : Nat} {x y : Value} {r : List Value} (hf : fm.category = 1) (h : tm_sum ((x :: y :: r).drop 2) ≤ 8) (hk : 24 ≤ tm_l k) : ((r.map (tm_tr ad fm)).map fun v => v.category).sum + 13 ≤ (tm_room k).locals := by
  rw [tm_sum_map hf]
  have h1 : tm_sum r ≤ 8 := h
  show tm_sum r + 13 ≤ tm_l k
  omega
theorem tm_tgt_eq {pc : Nat} {off : Int} (h : 0 ≤ (pc : Int) + off) : (pc : Int) + off = (tm_tgt pc off : Int) := (Int.toNat_of_nonneg h).symm
theorem tm_lookup_off {pc : Nat} {df x : Int} : ∀ {ps : List (Int × Int)}, 0 ≤ (pc : Int) + df → (∀ q ∈ ps, 0 ≤ (pc : Int) + q.2) → 0 ≤ (pc : Int) + Op.lookupswitch.offset ps df x
  | [], h1, _ => h1
  | (a, o) :: ps, h1, h2 => by
    rw [Op.lookupswitch.offset_cons]
    split
    · exact h2 (a, o) List.mem_cons_self
    · exact tm_lookup_off h1 (fun q hq => h2 q (List.mem_cons_of_mem _ hq))
theorem tm_ci (x : Int32) : (Value.int x).category ≠ 2 := show (1 : Nat) ≠ 2 by decide
theorem tm_cr (x : Nat) : (Value.ref x).category ≠ 2 := show (1 : Nat) ≠ 2 by decide
theorem tm_own {ci b : Nat} (hc : ci < 12) (hb : b < tm_nf ci) : (tm_T ci b).1 = tm_cn ci := by
  have h1 : (List.range 12).all (fun c => (List.range (tm_nf c)).all (fun j => decide ((tm_T c j).1 = tm_cn c))) = true := by decide +kernel
  exact of_decide_eq_true (List.all_eq_true.mp (List.all_eq_true.mp h1 ci (List.mem_range.mpr hc)) b (List.mem_range.mpr hb))
theorem tm_wf_up {R : Nat → Nat → Option Nat} {n o b x : Nat} (h : ∀ k j a, R k j = some a → a < n) (hx : x < n) : ∀ (k j a : Nat), va_up R o (va_up (R o) b (some x)) k j = some a → a < n := by
  intro k j a
  by_cases hk : k = o
  · subst hk
    rw [tm_up_s]
    by_cases hj : j = b
    · subst hj
      rw [tm_up_s]
      intro q; cases q; exact hx
    · rw [tm_up_n hj]; exact h k j a
  · rw [tm_up_n hk]; exact h k j a
theorem tm_wf_new {L : List (Nat × Nat)} {R : Nat → Nat → Option Nat} {sh : Nat × Nat} (h : ∀ k j a, R k j = some a → a < L.length) : ∀ (k j a : Nat), va_up R L.length (fun _ => none) k j = some a → a < (L ++ [sh]).length := by
  intro k j a
  rw [List.length_append]
  by_cases hk : k = L.length
  · rw [hk, tm_up_s]; intro q; cases q
  · rw [tm_up_n hk]; intro q; have := h k j a q; omega
theorem tm_ty_app {L : List (Nat × Nat)} {cf : Nat → ClassId} {tys : List (ClassId × FieldType)} {a n : Nat} (ha : a < 12) (h : ∀ k sh, L[k]? = some sh → 12 ≤ sh.1 → ∃ t0 : Nat, tys[t0]? = some (cf k, tm_akt sh.1)) : ∀ k sh, (L ++ [(a, n)])[k]? = some sh → 12 ≤ sh.1 → ∃ t0 : Nat, tys[t0]? = some (cf k, tm_akt sh.1) := by
  intro k sh hk h12
  by_cases hl : k < L.length
  · rw [List.getElem?_append_left hl] at hk
    exact h k sh hk h12
  · rw [List.getElem?_append_right (by omega)] at hk
    cases hq : k - L.length with
    | zero => rw [hq] at hk; cases hk; exact absurd h12 (by show ¬ 12 ≤ a; omega)
    | succ q => rw [hq] at hk; cases hk
theorem tm_ty_push {L : List (Nat × Nat)} {cf : Nat → ClassId} {tys : List (ClassId × FieldType)} {cA : ClassId} {ty : FieldType} {a n : Nat} (ha : tm_akt a = ty) (h : ∀ k sh, L[k]? = some sh → 12 ≤ sh.1 → ∃ t0 : Nat, tys[t0]? = some (cf k, tm_akt sh.1)) : ∀ k sh, (L ++ [(a, n)])[k]? = some sh → 12 ≤ sh.1 → ∃ t0 : Nat, (tys ++ [(cA, ty)])[t0]? = some (va_up cf L.length cA k, tm_akt sh.1) := by
  intro k sh hk h12
  by_cases hl : k < L.length
  · rw [List.getElem?_append_left hl] at hk
    obtain ⟨t0, ht⟩ := h k sh hk h12
    exact ⟨t0, by rw [List.getElem?_append_left (List.getElem?_eq_some_iff.mp ht).1, tm_up_n (by omega)]; exact ht⟩
  · rw [List.getElem?_append_right (by omega)] at hk
    cases hq : k - L.length with
    | zero =>
      rw [hq] at hk; cases hk
      have : k = L.length := by omega
      subst this
      exact ⟨tys.length, by rw [List.getElem?_append_right (Nat.le_refl _), Nat.sub_self, tm_up_s, ← ha]; rfl⟩
    | succ q => rw [hq] at hk; cases hk
theorem tm_dflt {ad : Nat → Nat} {M : tm_Mem} {o a j : Nat} (ha : a < 12) (hj : j < tm_nf a) (hI : M.2.1 o = fun _ => 0) (hR : M.2.2.2 o = fun _ => none) : defaultValue (tm_ty a j) = vp_V (tm_fs ad M o a) j := by
  have h1 : (List.range 12).all (fun c => (List.range (tm_nf c)).all (fun j => decide (defaultValue (tm_ty c j) = if tm_isr c j = true then .null else .int 0))) = true := by decide +kernel
  have h2 := of_decide_eq_true (List.all_eq_true.mp (List.all_eq_true.mp h1 a (List.mem_range.mpr ha)) j (List.mem_range.mpr hj))
  rw [h2, vp_V, List.getD_eq_getElem?_getD, tm_fs_get hj]
  unfold tm_fv
  rw [hI, hR]
  split <;> rfl
theorem tm_fs_ad {ad ad' : Nat → Nat} {M : tm_Mem} {o a : Nat} (hR : M.2.2.2 o = fun _ => none) : tm_fs ad' M o a = tm_fs ad M o a := by
  unfold tm_fs
  apply List.map_congr_left
  intro j _
  unfold tm_fv
  rw [hR]
  rfl
theorem tm_vb_app {n : Nat} {a b : List Value} (h : tm_vb n (a ++ b) = true) : tm_vb n a = true ∧ tm_vb n b = true := by
  unfold tm_vb at h ⊢
  rw [List.all_append, Bool.and_eq_true] at h
  exact h
theorem tm_cs_mem : ∀ {a : Nat}, a < 12 → a ∈ tm_cs := by
  intro a ha
  have h1 : (List.range 12).all (fun c => decide (c ∈ tm_cs)) = true := by decide +kernel
  exact of_decide_eq_true (List.all_eq_true.mp h1 a (List.mem_range.mpr ha))

section STEP
variable {p : Program} {l : Launch} {e : Env} {s : State} {m : MethodId} {args : Array Value} {below : List Frame} {meth : Method} {c : Code} {D : va_G} {A : Nat → Prop} {H : Heap} {locs : List Loc} {ad : Nat → Nat} {cf : Nat → ClassId} {tys : List (ClassId × FieldType)} {fm : Value} {Q : State → Prop} {lsR : Array Slot}
set_option maxHeartbeats 4000000 in
set_option maxRecDepth 100000 in
theorem tm_step {E : tm_Env} {k pc : Nat} {x : tm_Ins} {ls st : List Value} {S : tm_St} {z : Nat × List Value × List Value × tm_St} (hp : tm_prog k pc = some x) (he : tm_exec E k pc x ls st S = some z)
    (C : tm_Ctx p k s m args meth c) (F : tm_SF E ad fm A s s.heap) (hA : ∀ q, s.heap.size ≤ q → A q) (hR : tm_Rel D A S.1 ad cf tys H s) (hS : va_S A s.heap H locs) (hl : lv_has lsR (tm_x k) (tm_lv ad fm ls)) (hn : ls.length = tm_x k) (hN : tm_nl k ls) (hc1 : S.2.1 ≤ tm_mc k) (hc2 : S.2.2 ≤ tm_ms k)
    (kk : ∀ (ad' : Nat → Nat) (cf' : Nat → ClassId) (tys' : List (ClassId × FieldType)) (H' : Heap) (locs' : List Loc) (lsR' : Array Slot), tm_ext S.1 z.2.2.2.1 ad cf ad' cf' → z.2.2.2.1.1.length + S.2.1 = S.1.1.length + z.2.2.2.2.1 → z.2.2.2.2.1 ≤ tm_mc k → z.2.2.2.2.2 ≤ tm_ms k → tm_Rel D A z.2.2.2.1 ad' cf' tys' H' s → va_S A s.heap H' locs' → lv_has lsR' (tm_x k) (tm_lv ad' fm z.2.1) → z.2.1.length = tm_x k → tm_nl k z.2.1 →
      W p l e (tm_room k) s m args below meth c H' locs' z.2.2.2.2.1 z.2.2.2.2.2 Q (F0 m z.1 lsR' (z.2.2.1.map (tm_tr ad' fm)))) :
    W p l e (tm_room k) s m args below meth c H locs S.2.1 S.2.2 Q (F0 m pc lsR (st.map (tm_tr ad fm))) := by
  obtain ⟨i, ln, a, b, c', d⟩ := x
  obtain ⟨hk, hok, hxk⟩ := tm_prog_ok hp
  simp only [tm_ok, Bool.and_eq_true] at hxk
  obtain ⟨hd0, hlk⟩ := hxk
  have hd := of_decide_eq_true hd0
  clear hd0
  simp only [tm_okm, Bool.and_eq_true] at hok
  obtain ⟨hf1, hl24⟩ := of_decide_eq_true hok.1
  obtain ⟨hx, hb, hml, hr, hown, hts, hlocks, hinit⟩ := C
  obtain ⟨hK, hP, hD, hty, hwf, hlen⟩ := id hR
  have k0 : ∀ (pc' : Nat) (ls' st' : List Value) (lsR' : Array Slot), z = (pc', ls', st', S) → lv_has lsR' (tm_x k) (tm_lv ad fm ls') → ls'.length = tm_x k → tm_nl k ls' → W p l e (tm_room k) s m args below meth c H locs S.2.1 S.2.2 Q (F0 m pc' lsR' (st'.map (tm_tr ad fm))) := by
    intro pc' ls' st' lsR' hz h1 h2 h3
    subst hz
    exact kk ad cf tys H locs lsR' (tm_ext_rf rfl) rfl hc1 hc2 hR hS h1 h2 h3
  have k1 : ∀ (pc' : Nat) (st' : List Value), z = (pc', ls, st', S) → W p l e (tm_room k) s m args below meth c H locs S.2.1 S.2.2 Q (F0 m pc' lsR (st'.map (tm_tr ad fm))) := fun pc' st' hz => k0 pc' ls st' lsR hz hl hn hN
  have kM : ∀ (M' : tm_Mem) (H1 : Heap) (locs1 : List Loc) (pc' : Nat) (st' : List Value), z = (pc', ls, st', (M', S.2)) → M'.1 = S.1.1 → (∀ k j a, M'.2.2.2 k j = some a → a < M'.1.length) → va_P D tm_cl (tm_W ad cf M') H1 → va_D A (tm_W ad cf M') → va_S A s.heap H1 locs1 → W p l e (tm_room k) s m args below meth c H1 locs1 S.2.1 S.2.2 Q (F0 m pc' lsR (st'.map (tm_tr ad fm))) := by
    intro M' H1 locs1 pc' st' hz hL hw h1 h2 h3
    subst hz
    exact kk ad cf tys H1 locs1 lsR (tm_ext_rf (by show M'.1.length = _; rw [hL])) (by show M'.1.length + _ = _; rw [hL]) hc1 hc2 ⟨hK, h1, h2, by rw [hL]; exact hty, hw, by rw [hL]; exact hlen⟩ h3 hl hn hN
  cases i with
  | iconst n =>
    obtain rfl : ln = 1 := by simpa [tm_lnk] using hlk
    exact lv_iconst hx hb hd rfl (k1 _ _ (ti_nx he))
  | bipush n =>
    obtain rfl : ln = 2 := by simpa [tm_lnk] using hlk
    exact lv_bipush hx hb hd rfl (k1 _ _ (ti_nx he))
  | sipush n =>
    obtain rfl : ln = 3 := by simpa [tm_lnk] using hlk
    exact lv_sipush hx hb hd rfl (k1 _ _ (ti_nx he))
  | lconst n =>
    obtain rfl : ln = 1 := by simpa [tm_lnk] using hlk
    exact lv_lconst hx hb hd rfl (k1 _ _ (ti_nx he))
  | ldc idx =>
    simp only [tm_lnk, Bool.and_eq_true, Bool.or_eq_true, beq_iff_eq, decide_eq_true_eq] at hlk
    obtain ⟨rfl, hlk⟩ := hlk
    simp only [tm_exec] at he
    rcases hlk with ⟨h0, hw⟩ | ⟨h0, hw⟩
    · rw [if_pos h0] at he
      have hmem := tm_inw (tm_K_in _ (List.mem_of_getElem? hw)) rfl
      exact W.ldc hx hb hown (hts _ hmem) (g := F0 m pc lsR (st.map (tm_tr ad fm))) rfl hd (k1 _ _ (ti_nx he))
    · rw [if_neg (by omega)] at he
      rcases hw with (⟨⟨ha, ho⟩, hi⟩ | ⟨⟨ha, ho⟩, hi⟩) | ⟨⟨ha, ho⟩, hi⟩
      · subst ha; subst hi; rw [ho] at hown
        exact va_ldcS hx hb hown F.2.2.2.2.1 hd (k1 _ _ (ti_nx he))
      · subst ha; subst hi; rw [ho] at hown
        exact va_ldcS hx hb hown F.2.2.2.2.2.1 hd (k1 _ _ (ti_nx he))
      · subst ha; subst hi; rw [ho] at hown
        exact va_ldcS hx hb hown F.2.2.2.2.2.2.1 hd (k1 _ _ (ti_nx he))
  | ldc_w idx =>
    simp only [tm_lnk, Bool.and_eq_true, beq_iff_eq, decide_eq_true_eq] at hlk
    obtain ⟨rfl, hw⟩ := hlk
    have hmem := tm_inw (tm_K_in _ (List.mem_of_getElem? hw)) rfl
    exact lv_ldcw hx hb hown (hts _ hmem) hd (k1 _ _ (ti_nx he))
  | ldc2_w idx =>
    simp only [tm_lnk, Bool.and_eq_true, beq_iff_eq, decide_eq_true_eq] at hlk
    obtain ⟨rfl, hw⟩ := hlk
    have hmem := tm_inw (tm_J_in _ (List.mem_of_getElem? hw)) rfl
    exact W.ldc2 hx hb hown (hts _ hmem) (g := F0 m pc lsR (st.map (tm_tr ad fm))) rfl hd (k1 _ _ (ti_nx he))
  | iload_n n =>
    obtain rfl : ln = 1 := by simpa [tm_lnk] using hlk
    rcases ti_load he with ⟨-, x, h1, h2⟩ | ⟨h0, -⟩ | ⟨h0, -⟩
    · exact lv_iload_n hx hb hd rfl (tm_lv_at hl h1 (fun _ => Value.noConfusion)) (k1 _ _ h2)
    · cases h0
    · cases h0
  | iload n =>
    obtain rfl : ln = 2 := by simpa [tm_lnk] using hlk
    rcases ti_load he with ⟨-, x, h1, h2⟩ | ⟨h0, -⟩ | ⟨h0, -⟩
    · exact lv_iload hx hb hd (tm_lv_at hl h1 (fun _ => Value.noConfusion)) (k1 _ _ h2)
    · cases h0
    · cases h0
  | aload_n n =>
    obtain rfl : ln = 1 := by simpa [tm_lnk] using hlk
    rcases ti_load he with ⟨h0, -⟩ | ⟨-, x, h1, h2⟩ | ⟨h0, -⟩
    · cases h0
    · exact lv_aload_n hx hb hd rfl (tm_lv_at hl h1 (fun _ => Value.noConfusion)) (k1 _ _ h2)
    · cases h0
  | aload n =>
    obtain rfl : ln = 2 := by simpa [tm_lnk] using hlk
    rcases ti_load he with ⟨h0, -⟩ | ⟨-, x, h1, h2⟩ | ⟨h0, -⟩
    · cases h0
    · exact lv_aload hx hb hd (tm_lv_at hl h1 (fun _ => Value.noConfusion)) (k1 _ _ h2)
    · cases h0
  | lload_n n =>
    obtain rfl : ln = 1 := by simpa [tm_lnk] using hlk
    rcases ti_load he with ⟨h0, -⟩ | ⟨h0, -⟩ | ⟨-, x, h1, h2⟩
    · cases h0
    · cases h0
    · exact lv_lload_n hx hb hd rfl (tm_lv_at hl h1 (fun _ => Value.noConfusion)) (k1 _ _ h2)
  | lload n =>
    obtain rfl : ln = 2 := by simpa [tm_lnk] using hlk
    rcases ti_load he with ⟨h0, -⟩ | ⟨h0, -⟩ | ⟨-, x, h1, h2⟩
    · cases h0
    · cases h0
    · exact lv_lload hx hb hd (tm_lv_at hl h1 (fun _ => Value.noConfusion)) (k1 _ _ h2)
  | istore_n n =>
    obtain rfl : ln = 1 := by simpa [tm_lnk] using hlk
    rcases ti_store he with ⟨-, x, r, rfl, h1, h2, h3⟩ | ⟨h0, -⟩ | ⟨h0, -⟩
    · exact lv_istore_n hx hb hd rfl hl (by omega) rfl (fun ls' h' => k0 _ _ _ ls' h3 (tm_lv_set (v := .int x) hN h2 h1 h') (by rw [List.length_set]; exact hn) (tm_nl_set hN (tm_ci x)))
    · cases h0
    · cases h0
  | istore n =>
    obtain rfl : ln = 2 := by simpa [tm_lnk] using hlk
    rcases ti_store he with ⟨-, x, r, rfl, h1, h2, h3⟩ | ⟨h0, -⟩ | ⟨h0, -⟩
    · exact lv_istore hx hb hd hl (by omega) rfl (fun ls' h' => k0 _ _ _ ls' h3 (tm_lv_set (v := .int x) hN h2 h1 h') (by rw [List.length_set]; exact hn) (tm_nl_set hN (tm_ci x)))
    · cases h0
    · cases h0
  | astore_n n =>
    obtain rfl : ln = 1 := by simpa [tm_lnk] using hlk
    rcases ti_store he with ⟨h0, -⟩ | ⟨-, x, r, rfl, h1, h2, h3⟩ | ⟨h0, -⟩
    · cases h0
    · exact lv_astore_n hx hb hd rfl hl (by omega) rfl (fun ls' h' => k0 _ _ _ ls' h3 (tm_lv_set (v := .ref x) hN h2 h1 h') (by rw [List.length_set]; exact hn) (tm_nl_set hN (tm_cr x)))
    · cases h0
  | astore n =>
    obtain rfl : ln = 2 := by simpa [tm_lnk] using hlk
    rcases ti_store he with ⟨h0, -⟩ | ⟨-, x, r, rfl, h1, h2, h3⟩ | ⟨h0, -⟩
    · cases h0
    · exact lv_astore hx hb hd hl (by omega) rfl (fun ls' h' => k0 _ _ _ ls' h3 (tm_lv_set (v := .ref x) hN h2 h1 h') (by rw [List.length_set]; exact hn) (tm_nl_set hN (tm_cr x)))
    · cases h0
  | lstore_n n =>
    obtain rfl : ln = 1 := by simpa [tm_lnk] using hlk
    rcases ti_store he with ⟨h0, -⟩ | ⟨h0, -⟩ | ⟨-, x, r, rfl, h4, h1, h2, h3⟩
    · cases h0
    · cases h0
    · exact lv_lstore_n hx hb hd rfl hl (by omega) rfl (fun ls' h' => k0 _ _ _ ls' h3 (tm_lv_setL (v := .long x) hN h2 h1 h') (by rw [List.length_set, List.length_set]; exact hn) (fun hh => by rw [h4] at hh; cases hh))
  | lstore n =>
    obtain rfl : ln = 2 := by simpa [tm_lnk] using hlk
    rcases ti_store he with ⟨h0, -⟩ | ⟨h0, -⟩ | ⟨-, x, r, rfl, h4, h1, h2, h3⟩
    · cases h0
    · cases h0
    · exact lv_lstore hx hb hd hl (by omega) rfl (fun ls' h' => k0 _ _ _ ls' h3 (tm_lv_setL (v := .long x) hN h2 h1 h') (by rw [List.length_set, List.length_set]; exact hn) (fun hh => by rw [h4] at hh; cases hh))
  | iinc n v =>
    obtain rfl : ln = 3 := by simpa [tm_lnk] using hlk
    simp only [tm_exec] at he
    split at he
    · rename_i x h1
      split at he
      · rename_i h2
        have hi : n < ls.length := (List.getElem?_eq_some_iff.mp h1).1
        obtain ⟨q, hq⟩ := List.getElem?_of_mem (tm_lv_mem (ad := ad) (fm := fm) h1 (fun _ => Value.noConfusion))
        exact lv_iinc hx hb hd hl hq rfl (by omega) rfl (fun ls' h' => k0 _ _ _ ls' (ti_nx he) (tm_lv_set (v := .int (x + Int32.ofInt v)) hN h2 hi h') (by rw [List.length_set]; exact hn) (tm_nl_set hN (tm_ci _)))
      · cases he
    · cases he
  | iadd =>
    obtain rfl : ln = 1 := by simpa [tm_lnk] using hlk
    simp only [tm_exec] at he
    obtain ⟨x, y, r, w, rfl, hw, hz⟩ := ti_op2 he
    cases hw
    exact lv_iadd hx hb hd (k1 _ _ hz)
  | isub =>
    obtain rfl : ln = 1 := by simpa [tm_lnk] using hlk
    simp only [tm_exec] at he
    obtain ⟨x, y, r, w, rfl, hw, hz⟩ := ti_op2 he
    cases hw
    exact lv_isub hx hb hd (k1 _ _ hz)
  | imul =>
    obtain rfl : ln = 1 := by simpa [tm_lnk] using hlk
    simp only [tm_exec] at he
    obtain ⟨x, y, r, w, rfl, hw, hz⟩ := ti_op2 he
    cases hw
    exact lv_imul hx hb hd (k1 _ _ hz)
  | idiv =>
    obtain rfl : ln = 1 := by simpa [tm_lnk] using hlk
    simp only [tm_exec] at he
    obtain ⟨x, y, r, w, rfl, hw, hz⟩ := ti_op2 he
    split at hw
    · cases hw
    · cases hw
      exact lv_idiv hx hb hd (by assumption) (k1 _ _ hz)
  | irem =>
    obtain rfl : ln = 1 := by simpa [tm_lnk] using hlk
    simp only [tm_exec] at he
    obtain ⟨x, y, r, w, rfl, hw, hz⟩ := ti_op2 he
    split at hw
    · cases hw
    · cases hw
      exact lv_irem hx hb hd (by assumption) (k1 _ _ hz)
  | iand =>
    obtain rfl : ln = 1 := by simpa [tm_lnk] using hlk
    simp only [tm_exec] at he
    obtain ⟨x, y, r, w, rfl, hw, hz⟩ := ti_op2 he
    cases hw
    exact lv_iand hx hb hd (k1 _ _ hz)
  | ior =>
    obtain rfl : ln = 1 := by simpa [tm_lnk] using hlk
    simp only [tm_exec] at he
    obtain ⟨x, y, r, w, rfl, hw, hz⟩ := ti_op2 he
    cases hw
    exact lv_ior hx hb hd (k1 _ _ hz)
  | ixor =>
    obtain rfl : ln = 1 := by simpa [tm_lnk] using hlk
    simp only [tm_exec] at he
    obtain ⟨x, y, r, w, rfl, hw, hz⟩ := ti_op2 he
    cases hw
    exact lv_ixor hx hb hd (k1 _ _ hz)
  | ishl =>
    obtain rfl : ln = 1 := by simpa [tm_lnk] using hlk
    simp only [tm_exec] at he
    obtain ⟨x, y, r, w, rfl, hw, hz⟩ := ti_op2 he
    cases hw
    exact lv_ishl hx hb hd (k1 _ _ hz)
  | ishr =>
    obtain rfl : ln = 1 := by simpa [tm_lnk] using hlk
    simp only [tm_exec] at he
    obtain ⟨x, y, r, w, rfl, hw, hz⟩ := ti_op2 he
    cases hw
    exact lv_ishr hx hb hd (k1 _ _ hz)
  | iushr =>
    obtain rfl : ln = 1 := by simpa [tm_lnk] using hlk
    simp only [tm_exec] at he
    obtain ⟨x, y, r, w, rfl, hw, hz⟩ := ti_op2 he
    cases hw
    exact lv_iushr hx hb hd rfl (k1 _ _ hz)
  | ineg =>
    obtain rfl : ln = 1 := by simpa [tm_lnk] using hlk
    simp only [tm_exec] at he
    obtain ⟨x, r, rfl, hz⟩ := ti_op1 he
    exact lv_ineg hx hb hd (k1 _ _ hz)
  | i2c =>
    obtain rfl : ln = 1 := by simpa [tm_lnk] using hlk
    simp only [tm_exec] at he
    obtain ⟨x, r, rfl, hz⟩ := ti_op1 he
    exact lv_i2c hx hb hd rfl (k1 _ _ hz)
  | i2b =>
    obtain rfl : ln = 1 := by simpa [tm_lnk] using hlk
    simp only [tm_exec] at he
    obtain ⟨x, r, rfl, hz⟩ := ti_op1 he
    exact lv_i2b hx hb hd rfl (k1 _ _ hz)
  | ladd =>
    obtain rfl : ln = 1 := by simpa [tm_lnk] using hlk
    simp only [tm_exec] at he
    obtain ⟨x, y, r, w, rfl, hw, hz⟩ := ti_op2l he
    cases hw
    exact lv_ladd hx hb hd (k1 _ _ hz)
  | lmul =>
    obtain rfl : ln = 1 := by simpa [tm_lnk] using hlk
    simp only [tm_exec] at he
    obtain ⟨x, y, r, w, rfl, hw, hz⟩ := ti_op2l he
    cases hw
    exact lv_lmul hx hb hd (k1 _ _ hz)
  | lrem =>
    obtain rfl : ln = 1 := by simpa [tm_lnk] using hlk
    simp only [tm_exec] at he
    obtain ⟨x, y, r, w, rfl, hw, hz⟩ := ti_op2l he
    split at hw
    · cases hw
    · cases hw
      exact lv_lrem hx hb hd (by assumption) (k1 _ _ hz)
  | land =>
    obtain rfl : ln = 1 := by simpa [tm_lnk] using hlk
    simp only [tm_exec] at he
    obtain ⟨x, y, r, w, rfl, hw, hz⟩ := ti_op2l he
    cases hw
    exact lv_land hx hb hd (k1 _ _ hz)
  | lshr =>
    obtain rfl : ln = 1 := by simpa [tm_lnk] using hlk
    simp only [tm_exec] at he
    split at he
    · exact lv_lshr hx hb hd rfl (k1 _ _ (ti_nx he))
    · cases he
  | lcmp =>
    obtain rfl : ln = 1 := by simpa [tm_lnk] using hlk
    simp only [tm_exec] at he
    split at he
    · exact W.lcmp hx hb hd (k1 _ _ (ti_nx he))
    · cases he
  | i2l =>
    obtain rfl : ln = 1 := by simpa [tm_lnk] using hlk
    simp only [tm_exec] at he
    split at he
    · exact lv_i2l hx hb hd rfl (k1 _ _ (ti_nx he))
    · cases he
  | l2i =>
    obtain rfl : ln = 1 := by simpa [tm_lnk] using hlk
    simp only [tm_exec] at he
    split at he
    · exact lv_l2i hx hb hd rfl (k1 _ _ (ti_nx he))
    · cases he
  | dup =>
    obtain rfl : ln = 1 := by simpa [tm_lnk] using hlk
    simp only [tm_exec] at he
    split at he
    · split at he
      · rename_i v r hc
        exact lv_dup hx hb hd (tm_cat1 F.2.2.2.1 hc) (k1 _ _ (ti_nx he))
      · cases he
    · cases he
  | dup2 =>
    obtain rfl : ln = 1 := by simpa [tm_lnk] using hlk
    simp only [tm_exec] at he
    split at he
    · split at he
      · rename_i v w r hc
        exact lv_dup2_11 hx hb hd (tm_cat1 F.2.2.2.1 hc.1) (tm_cat1 F.2.2.2.1 hc.2) (k1 _ _ (ti_nx he))
      · cases he
    · cases he
  | pop =>
    obtain rfl : ln = 1 := by simpa [tm_lnk] using hlk
    simp only [tm_exec] at he
    split at he
    · split at he
      · rename_i v r hc
        exact lv_pop hx hb hd (tm_cat1 F.2.2.2.1 hc) (k1 _ _ (ti_nx he))
      · cases he
    · cases he
  | goto off =>
    simp only [tm_lnk, Bool.and_eq_true, beq_iff_eq, decide_eq_true_eq] at hlk
    obtain ⟨rfl, ho⟩ := hlk
    exact lv_goto hx hb hd (tm_tgt_eq ho) (k1 _ _ (ti_nx he))
  | ifCond cd off =>
    simp only [tm_lnk, Bool.and_eq_true, beq_iff_eq, decide_eq_true_eq] at hlk
    obtain ⟨rfl, ho⟩ := hlk
    simp only [tm_exec] at he
    split at he
    · rename_i x r
      have h := ti_if he
      cases cd with
      | eq => exact lv_if_eq hx hb hd (tm_tgt_eq ho) (fun q => h.elim (fun h => k1 _ _ h.2) (fun h => absurd q (of_decide_eq_false h.1))) (fun q => h.elim (fun h => absurd (of_decide_eq_true h.1) q) (fun h => k1 _ _ h.2))
      | ne => exact lv_if_ne hx hb hd (tm_tgt_eq ho) (fun q => h.elim (fun h => k1 _ _ h.2) (fun h => absurd q (of_decide_eq_false h.1))) (fun q => h.elim (fun h => absurd q (of_decide_eq_true h.1)) (fun h => k1 _ _ h.2))
      | lt => exact lv_if_lt hx hb hd (tm_tgt_eq ho) (fun q => h.elim (fun h => k1 _ _ h.2) (fun h => absurd q (of_decide_eq_false h.1))) (fun q => h.elim (fun h => absurd (of_decide_eq_true h.1) q) (fun h => k1 _ _ h.2))
      | ge => exact lv_if_ge hx hb hd (tm_tgt_eq ho) (fun q => h.elim (fun h => k1 _ _ h.2) (fun h => absurd q (of_decide_eq_false h.1))) (fun q => h.elim (fun h => absurd (of_decide_eq_true h.1) q) (fun h => k1 _ _ h.2))
      | gt => exact lv_if_gt hx hb hd (tm_tgt_eq ho) (fun q => h.elim (fun h => k1 _ _ h.2) (fun h => absurd q (of_decide_eq_false h.1))) (fun q => h.elim (fun h => absurd (of_decide_eq_true h.1) q) (fun h => k1 _ _ h.2))
      | le => exact lv_if_le hx hb hd (tm_tgt_eq ho) (fun q => h.elim (fun h => k1 _ _ h.2) (fun h => absurd q (of_decide_eq_false h.1))) (fun q => h.elim (fun h => absurd (of_decide_eq_true h.1) q) (fun h => k1 _ _ h.2))
    · cases he
  | if_icmp cd off =>
    simp only [tm_lnk, Bool.and_eq_true, beq_iff_eq, decide_eq_true_eq] at hlk
    obtain ⟨rfl, ho⟩ := hlk
    simp only [tm_exec] at he
    split at he
    · rename_i y x r
      have h := ti_if he
      cases cd with
      | eq => exact lv_icmp_eq hx hb hd (tm_tgt_eq ho) (fun q => h.elim (fun h => k1 _ _ h.2) (fun h => absurd q (of_decide_eq_false h.1))) (fun q => h.elim (fun h => absurd (of_decide_eq_true h.1) q) (fun h => k1 _ _ h.2))
      | ne => exact lv_icmp_ne hx hb hd (tm_tgt_eq ho) (fun q => h.elim (fun h => k1 _ _ h.2) (fun h => absurd q (of_decide_eq_false h.1))) (fun q => h.elim (fun h => absurd q (of_decide_eq_true h.1)) (fun h => k1 _ _ h.2))
      | lt => exact lv_icmp_lt hx hb hd (tm_tgt_eq ho) (fun q => h.elim (fun h => k1 _ _ h.2) (fun h => absurd q (of_decide_eq_false h.1))) (fun q => h.elim (fun h => absurd (of_decide_eq_true h.1) q) (fun h => k1 _ _ h.2))
      | ge => exact lv_icmp_ge hx hb hd (tm_tgt_eq ho) (fun q => h.elim (fun h => k1 _ _ h.2) (fun h => absurd q (of_decide_eq_false h.1))) (fun q => h.elim (fun h => absurd (of_decide_eq_true h.1) q) (fun h => k1 _ _ h.2))
      | gt => exact lv_icmp_gt hx hb hd (tm_tgt_eq ho) (fun q => h.elim (fun h => k1 _ _ h.2) (fun h => absurd q (of_decide_eq_false h.1))) (fun q => h.elim (fun h => absurd (of_decide_eq_true h.1) q) (fun h => k1 _ _ h.2))
      | le => exact lv_icmp_le hx hb hd (tm_tgt_eq ho) (fun q => h.elim (fun h => k1 _ _ h.2) (fun h => absurd q (of_decide_eq_false h.1))) (fun q => h.elim (fun h => absurd (of_decide_eq_true h.1) q) (fun h => k1 _ _ h.2))
    · cases he
  | tableswitch df lo hi offs =>
    simp only [tm_lnk, Bool.and_eq_true, decide_eq_true_eq] at hlk
    simp only [tm_exec] at he
    split at he
    · rename_i x r
      split at he
      · rename_i h1
        exact lv_tableOut hx hb hd h1 (tm_tgt_eq hlk.1) (k1 _ _ (ti_nx he))
      · rename_i h1
        split at he
        · rename_i off ho
          have h2 := List.all_eq_true.mp hlk.2 off (by rw [Array.mem_toList_iff]; exact Array.mem_of_getElem? ho)
          exact lv_tableIn hx hb hd (fun q => h1 (Or.inl q)) (fun q => h1 (Or.inr q)) ho (tm_tgt_eq (of_decide_eq_true h2)) (k1 _ _ (ti_nx he))
        · cases he
    · cases he
  | lookupswitch df ps =>
    simp only [tm_lnk, Bool.and_eq_true, decide_eq_true_eq] at hlk
    obtain ⟨⟨h1, h2⟩, h3⟩ := hlk
    simp only [tm_exec] at he
    split at he
    · rename_i x r
      refine lv_lookup hx hb hd h1 rfl (tm_tgt_eq ?_) (k1 _ _ (ti_nx he))
      exact tm_lookup_off h2 (fun q hq => of_decide_eq_true (List.all_eq_true.mp h3 q hq))
    · cases he
  | getfield idx =>
    simp only [tm_lnk, Bool.and_eq_true, Bool.or_eq_true, beq_iff_eq, decide_eq_true_eq] at hlk
    obtain ⟨rfl, hlk⟩ := hlk
    obtain ⟨o, r, rfl, ho⟩ := ti_getf he
    rcases ho with ⟨hd0, n, hL, hz⟩ | ⟨hd4, ho, hz⟩ | ⟨hd5, ho, hz⟩
    · have hw : tm_F[c']? = some (tm_o k, idx, a, b, 0) := by
        rcases hlk with (q | q) | q
        · exact q.2
        · omega
        · omega
      have hm := List.mem_of_getElem? hw
      obtain ⟨ha12, hbn⟩ := tm_F_ok hm
      have hwd := hts _ (tm_inw (tm_F_in _ hm) rfl)
      have hg := tm_W_get (ad := ad) (cf := cf) hL
      rw [tm_en_o ha12] at hg
      refine va_get (ci := a) hx hb hts (tm_layf ha12) hown hK hP o hg (tm_clf ha12) b hbn hwd (fun _ q => q) (tm_fs_get hbn) hd ?_
      rcases hz with ⟨q, hz⟩ | ⟨q, hz⟩
      · have := k1 _ _ hz
        rw [List.map_cons, tm_tr_rf] at this
        rw [tm_fv, if_pos q]
        exact this
      · have := k1 _ _ hz
        rw [tm_fv, if_neg (by rw [q]; decide)]
        exact this
    · have hw : idx = 9 ∧ tm_o k = 13 := by
        rcases hlk with (q | q) | q
        · omega
        · exact ⟨q.1.2, q.2⟩
        · omega
      rw [hw.2] at hown
      obtain ⟨j, hj, rfl⟩ : ∃ j, j < 3 ∧ o = 1000 + j := ⟨o - 1000, by omega, by omega⟩
      have hE := (F.1.1 j hj).2.2.1
      have hwd := hts _ (tm_inw tm_w_sv rfl)
      rw [hw.1] at hd
      refine vk_getf hx hb hE hS hown hwd (fun _ q => q) hd ?_
      have := k1 _ _ hz
      rw [show 1000 + j + 100 = 1100 + j by omega] at this
      exact this
    · have hw : idx = 15 ∧ tm_o k = 13 := by
        rcases hlk with (q | q) | q
        · omega
        · omega
        · exact ⟨q.1.2, q.2⟩
      rw [hw.2] at hown
      obtain ⟨j, hj, rfl⟩ : ∃ j, j < 3 ∧ o = 1000 + j := ⟨o - 1000, by omega, by omega⟩
      have hE := (F.1.1 j hj).2.1
      have hwd := hts _ (tm_inw tm_w_sc rfl)
      rw [hw.1] at hd
      exact vk_getf hx hb hE hS hown hwd (fun _ q => q) hd (k1 _ _ hz)
  | putfield idx =>
    simp only [tm_lnk, Bool.and_eq_true, Bool.or_eq_true, beq_iff_eq, decide_eq_true_eq, Bool.not_eq_true'] at hlk
    obtain ⟨⟨⟨rfl, -⟩, hw⟩, hfin⟩ := hlk
    obtain ⟨-, o, r, n, hL, hz⟩ := ti_putf he
    have hm := List.mem_of_getElem? hw
    obtain ⟨ha12, hbn⟩ := tm_F_ok hm
    have hwd := hts _ (tm_inw (tm_F_in _ hm) rfl)
    have hg := tm_W_get (ad := ad) (cf := cf) hL
    rw [tm_en_o ha12] at hg
    rcases hz with ⟨x, rfl, q1, q2, q3, hz⟩ | ⟨x, rfl, q0, q1, hz⟩
    · have eW := tm_W_set (ad := ad) (cf := cf) (M := S.1) (M' := (S.1.1, va_up S.1.2.1 o (upd (S.1.2.1 o) b x), S.1.2.2.1, S.1.2.2.2)) rfl hL (fun j hj => tm_up_n hj) (fun _ _ => rfl) (fun _ _ => rfl)
      rw [tm_en_o ha12, ← tm_fs_seti (ad := ad) (M := S.1) (M' := (S.1.1, va_up S.1.2.1 o (upd (S.1.2.1 o) b x), S.1.2.2.1, S.1.2.2.2)) (x := x) hbn q1 tm_up_s rfl] at eW
      rcases hfin with hfin | hfin
      · exact va_put (ci := a) hx hb hts (tm_layf ha12) (tm_ty a) (tm_tyf ha12) (tm_nmf ha12) hown hK hP hD hS o hg (tm_clf ha12) b hbn hwd (fun _ q => q) hfin (tm_tyf ha12 b hbn) (tm_isr_i q1 q2) q3 (by rw [tm_fs_len]; exact hbn) hd (fun H1 locs1 h1 h2 h3 => kM _ H1 locs1 _ _ hz rfl hwf (eW ▸ h1) (eW ▸ h2) h3)
      · cases hfv : (tm_T a b).2.2.2 with
        | false => exact va_put (ci := a) hx hb hts (tm_layf ha12) (tm_ty a) (tm_tyf ha12) (tm_nmf ha12) hown hK hP hD hS o hg (tm_clf ha12) b hbn hwd (fun _ q => q) hfv (tm_tyf ha12 b hbn) (tm_isr_i q1 q2) q3 (by rw [tm_fs_len]; exact hbn) hd (fun H1 locs1 h1 h2 h3 => kM _ H1 locs1 _ _ hz rfl hwf (eW ▸ h1) (eW ▸ h2) h3)
        | true => exact va_putF (ci := a) hx hb hts (tm_layf ha12) (tm_ty a) (tm_tyf ha12) (tm_nmf ha12) hown hK hP hD hS o hg (tm_clf ha12) b hbn hwd (fun _ q => q) hfv (hinit hfin.1) (by rw [← hfin.2]; exact tm_own ha12 hbn) (tm_tyf ha12 b hbn) (tm_isr_i q1 q2) q3 (by rw [tm_fs_len]; exact hbn) hd (fun H1 locs1 h1 h2 h3 => kM _ H1 locs1 _ _ hz rfl hwf (eW ▸ h1) (eW ▸ h2) h3)
    · have eW := tm_W_set (ad := ad) (cf := cf) (M := S.1) (M' := (S.1.1, S.1.2.1, S.1.2.2.1, va_up S.1.2.2.2 o (va_up (S.1.2.2.2 o) b (some x)))) rfl hL (fun _ _ => rfl) (fun _ _ => rfl) (fun j hj => tm_up_n hj)
      rw [tm_en_o ha12, ← tm_fs_setr (ad := ad) (M := S.1) (M' := (S.1.1, S.1.2.1, S.1.2.2.1, va_up S.1.2.2.2 o (va_up (S.1.2.2.2 o) b (some x)))) (x := x) hbn q1 rfl tm_up_s] at eW
      have hwf' : ∀ (j i y : Nat), va_up S.1.2.2.2 o (va_up (S.1.2.2.2 o) b (some x)) j i = some y → y < S.1.1.length := tm_wf_up hwf q0
      have hnf := tm_isr_ty ha12 hbn q1 (ad x)
      rcases hfin with hfin | hfin
      · exact va_put (ci := a) hx hb hts (tm_layf ha12) (tm_ty a) (tm_tyf ha12) (tm_nmf ha12) hown hK hP hD hS o hg (tm_clf ha12) b hbn hwd (fun _ q => q) hfin (tm_tyf ha12 b hbn) hnf.1 hnf.2 (by rw [tm_fs_len]; exact hbn) hd (fun H1 locs1 h1 h2 h3 => kM _ H1 locs1 _ _ hz rfl hwf' (eW ▸ h1) (eW ▸ h2) h3)
      · cases hfv : (tm_T a b).2.2.2 with
        | false => exact va_put (ci := a) hx hb hts (tm_layf ha12) (tm_ty a) (tm_tyf ha12) (tm_nmf ha12) hown hK hP hD hS o hg (tm_clf ha12) b hbn hwd (fun _ q => q) hfv (tm_tyf ha12 b hbn) hnf.1 hnf.2 (by rw [tm_fs_len]; exact hbn) hd (fun H1 locs1 h1 h2 h3 => kM _ H1 locs1 _ _ hz rfl hwf' (eW ▸ h1) (eW ▸ h2) h3)
        | true => exact va_putF (ci := a) hx hb hts (tm_layf ha12) (tm_ty a) (tm_tyf ha12) (tm_nmf ha12) hown hK hP hD hS o hg (tm_clf ha12) b hbn hwd (fun _ q => q) hfv (hinit hfin.1) (by rw [← hfin.2]; exact tm_own ha12 hbn) (tm_tyf ha12 b hbn) hnf.1 hnf.2 (by rw [tm_fs_len]; exact hbn) hd (fun H1 locs1 h1 h2 h3 => kM _ H1 locs1 _ _ hz rfl hwf' (eW ▸ h1) (eW ▸ h2) h3)
  | getstatic idx =>
    simp only [tm_lnk, Bool.and_eq_true, Bool.or_eq_true, beq_iff_eq] at hlk
    obtain ⟨⟨rfl, ho⟩, hlk⟩ := hlk
    simp only [tm_exec] at he
    rw [ho] at hown
    rcases hlk with ⟨h0, rfl⟩ | ⟨h0, rfl⟩
    · rw [if_pos h0] at he
      exact va_gets hx hb F.2.1 hS hown (hts _ (tm_inw tm_w_cs rfl)) (fun _ q => q) hd (k1 _ _ (ti_nx he))
    · rw [if_neg (by omega)] at he
      exact va_gets hx hb F.2.2.1 hS hown (hts _ (tm_inw tm_w_sf rfl)) (fun _ q => q) hd (k1 _ _ (ti_nx he))
  | iaload =>
    obtain rfl : ln = 1 := by simpa [tm_lnk] using hlk
    obtain ⟨i, o, r, rfl, ho⟩ := ti_ald he
    rcases ho with ⟨rfl, -, hi, hz⟩ | ⟨-, h0, -⟩ | ⟨n, hL, hi, hz⟩
    · exact va_sld hx hb F.2.2.2.2.2.2.2.1 F.2.2.2.2.2.2.2.2.1 F.2.2.2.2.2.2.2.2.2.1 hS (ti_inb hi) hd (k1 _ _ hz)
    · cases h0
    · have hg := tm_W_get (ad := ad) (cf := cf) hL
      rw [tm_en_i (Or.inr (Or.inl rfl))] at hg
      obtain ⟨t0, ht⟩ := hty o _ hL (tm_12 _)
      exact va_iald hx hb hK hP o t0 hg ht (ti_inb hi) hd (k1 _ _ hz)
  | caload =>
    obtain rfl : ln = 1 := by simpa [tm_lnk] using hlk
    obtain ⟨i, o, r, rfl, ho⟩ := ti_ald he
    rcases ho with ⟨-, h0, -⟩ | ⟨-, h0, -⟩ | ⟨n, hL, hi, hz⟩
    · cases h0
    · cases h0
    · have hg := tm_W_get (ad := ad) (cf := cf) hL
      rw [tm_en_i (Or.inl rfl)] at hg
      obtain ⟨t0, ht⟩ := hty o _ hL (tm_12 _)
      exact va_cald hx hb hK hP o t0 hg ht (ti_inb hi) hd (k1 _ _ hz)
  | baload =>
    obtain rfl : ln = 1 := by simpa [tm_lnk] using hlk
    obtain ⟨i, o, r, rfl, ho⟩ := ti_ald he
    rcases ho with ⟨-, h0, -⟩ | ⟨h1, -, hi, hz⟩ | ⟨n, hL, hi, hz⟩
    · cases h0
    · obtain ⟨j, hj, rfl⟩ : ∃ j, j < 3 ∧ o = 1100 + j := ⟨o - 1100, by omega, by omega⟩
      have hT := (F.1.1 j hj).2.2.2
      rw [Nat.add_sub_cancel_left] at hi hz
      exact va_tb hx hb hT hS (ti_inb hi) rfl hd (k1 _ _ hz)
    · have hg := tm_W_get (ad := ad) (cf := cf) hL
      rw [tm_en_i (Or.inr (Or.inr rfl))] at hg
      obtain ⟨t0, ht⟩ := hty o _ hL (tm_12 _)
      exact va_zald hx hb hK hP o t0 hg ht (ti_inb hi) hd (k1 _ _ hz)
  | iastore =>
    obtain rfl : ln = 1 := by simpa [tm_lnk] using hlk
    obtain ⟨x, i, o, r, n, rfl, hL, hi, hz⟩ := ti_ast he
    have hg := tm_W_get (ad := ad) (cf := cf) hL
    rw [tm_en_i (Or.inr (Or.inl rfl))] at hg
    obtain ⟨t0, ht⟩ := hty o _ hL (tm_12 _)
    have eW := tm_W_set (ad := ad) (cf := cf) (M := S.1) (M' := (S.1.1, va_up S.1.2.1 o (upd (S.1.2.1 o) i.toNatClampNeg (vp_nar (tm_akt 13) x)), S.1.2.2.1, S.1.2.2.2)) rfl hL (fun j hj => tm_up_n hj) (fun _ _ => rfl) (fun _ _ => rfl)
    rw [tm_en_i (Or.inr (Or.inl rfl))] at eW
    dsimp only at eW
    rw [show va_up S.1.2.1 o (upd (S.1.2.1 o) i.toNatClampNeg (vp_nar (tm_akt 13) x)) o = upd (S.1.2.1 o) i.toNatClampNeg x from tm_up_s] at eW
    exact va_iast hx hb hK hP hD hS o t0 hg ht (ti_inb hi) hd (fun H1 locs1 h1 h2 h3 => kM _ H1 locs1 _ _ hz rfl hwf (eW ▸ h1) (eW ▸ h2) h3)
  | castore =>
    obtain rfl : ln = 1 := by simpa [tm_lnk] using hlk
    obtain ⟨x, i, o, r, n, rfl, hL, hi, hz⟩ := ti_ast he
    have hg := tm_W_get (ad := ad) (cf := cf) hL
    rw [tm_en_i (Or.inl rfl)] at hg
    obtain ⟨t0, ht⟩ := hty o _ hL (tm_12 _)
    have eW := tm_W_set (ad := ad) (cf := cf) (M := S.1) (M' := (S.1.1, va_up S.1.2.1 o (upd (S.1.2.1 o) i.toNatClampNeg (vp_nar (tm_akt 12) x)), S.1.2.2.1, S.1.2.2.2)) rfl hL (fun j hj => tm_up_n hj) (fun _ _ => rfl) (fun _ _ => rfl)
    rw [tm_en_i (Or.inl rfl)] at eW
    dsimp only at eW
    rw [show va_up S.1.2.1 o (upd (S.1.2.1 o) i.toNatClampNeg (vp_nar (tm_akt 12) x)) o = upd (S.1.2.1 o) i.toNatClampNeg (vp_nar .char x) from tm_up_s] at eW
    exact va_cast hx hb hK hP hD hS o t0 hg ht (ti_inb hi) hd (fun H1 locs1 h1 h2 h3 => kM _ H1 locs1 _ _ hz rfl hwf (eW ▸ h1) (eW ▸ h2) h3)
  | bastore =>
    obtain rfl : ln = 1 := by simpa [tm_lnk] using hlk
    obtain ⟨x, i, o, r, n, rfl, hL, hi, hz⟩ := ti_ast he
    have hg := tm_W_get (ad := ad) (cf := cf) hL
    rw [tm_en_i (Or.inr (Or.inr rfl))] at hg
    obtain ⟨t0, ht⟩ := hty o _ hL (tm_12 _)
    have eW := tm_W_set (ad := ad) (cf := cf) (M := S.1) (M' := (S.1.1, va_up S.1.2.1 o (upd (S.1.2.1 o) i.toNatClampNeg (vp_nar (tm_akt 15) x)), S.1.2.2.1, S.1.2.2.2)) rfl hL (fun j hj => tm_up_n hj) (fun _ _ => rfl) (fun _ _ => rfl)
    rw [tm_en_i (Or.inr (Or.inr rfl))] at eW
    dsimp only at eW
    rw [show va_up S.1.2.1 o (upd (S.1.2.1 o) i.toNatClampNeg (vp_nar (tm_akt 15) x)) o = upd (S.1.2.1 o) i.toNatClampNeg (vp_nar .boolean x) from tm_up_s] at eW
    exact va_zast hx hb hK hP hD hS o t0 hg ht (ti_inb hi) hd (fun H1 locs1 h1 h2 h3 => kM _ H1 locs1 _ _ hz rfl hwf (eW ▸ h1) (eW ▸ h2) h3)
  | laload =>
    obtain rfl : ln = 1 := by simpa [tm_lnk] using hlk
    obtain ⟨i, o, r, n, rfl, hL, hi, hz⟩ := ti_lald he
    have hg := tm_W_get (ad := ad) (cf := cf) hL
    rw [tm_en_l] at hg
    obtain ⟨t0, ht⟩ := hty o _ hL (tm_12 _)
    exact va_lald hx hb hK hP o t0 hg ht (ti_inb hi) hd (k1 _ _ hz)
  | lastore =>
    obtain rfl : ln = 1 := by simpa [tm_lnk] using hlk
    obtain ⟨x, i, o, r, n, rfl, hL, hi, hz⟩ := ti_last he
    have hg := tm_W_get (ad := ad) (cf := cf) hL
    rw [tm_en_l] at hg
    obtain ⟨t0, ht⟩ := hty o _ hL (tm_12 _)
    have eW := tm_W_set (ad := ad) (cf := cf) (M := S.1) (M' := (S.1.1, S.1.2.1, va_up S.1.2.2.1 o (vp_updL (S.1.2.2.1 o) i.toNatClampNeg x), S.1.2.2.2)) rfl hL (fun _ _ => rfl) (fun j hj => tm_up_n hj) (fun _ _ => rfl)
    rw [tm_en_l] at eW
    dsimp only at eW
    rw [show va_up S.1.2.2.1 o (vp_updL (S.1.2.2.1 o) i.toNatClampNeg x) o = vp_updL (S.1.2.2.1 o) i.toNatClampNeg x from tm_up_s] at eW
    exact va_last hx hb hK hP hD hS o t0 hg ht (ti_inb hi) hd (fun H1 locs1 h1 h2 h3 => kM _ H1 locs1 _ _ hz rfl hwf (eW ▸ h1) (eW ▸ h2) h3)
  | aaload =>
    obtain rfl : ln = 1 := by simpa [tm_lnk] using hlk
    obtain ⟨i, o, r, n, rfl, hL, hi, hz⟩ := ti_aald he
    have hg := tm_W_get (ad := ad) (cf := cf) hL
    rw [tm_en_q] at hg
    obtain ⟨t0, ht⟩ := hty o _ hL (tm_12 _)
    refine va_aldq hx hb hK hP o t0 hg ht (ti_inb hi) hd ?_
    have := k1 _ _ hz
    rw [List.map_cons, tm_tr_rf] at this
    exact this
  | aastore =>
    obtain rfl : ln = 1 := by simpa [tm_lnk] using hlk
    obtain ⟨v, i, o, r, n, nv, rfl, hL, hV, hi, hz⟩ := ti_aast he
    have hg := tm_W_get (ad := ad) (cf := cf) hL
    rw [tm_en_q] at hg
    have hgv := tm_W_get (ad := ad) (cf := cf) hV
    rw [tm_en_o (by decide)] at hgv
    obtain ⟨t0, ht⟩ := hty o _ hL (tm_12 _)
    have eW := tm_W_set (ad := ad) (cf := cf) (M := S.1) (M' := (S.1.1, S.1.2.1, S.1.2.2.1, va_up S.1.2.2.2 o (va_up (S.1.2.2.2 o) i.toNatClampNeg (some v)))) rfl hL (fun _ _ => rfl) (fun _ _ => rfl) (fun j hj => tm_up_n hj)
    have e2 : (fun j => ((va_up S.1.2.2.2 o (va_up (S.1.2.2.2 o) i.toNatClampNeg (some v))) o j).map ad) = va_up (fun j => (S.1.2.2.2 o j).map ad) i.toNatClampNeg (some (ad v)) := by
      funext j
      rw [tm_up_s]
      unfold va_up
      split <;> rfl
    rw [tm_en_q] at eW
    dsimp only at eW
    rw [e2] at eW
    exact va_astq (r := (tm_cn 7, tm_T 7, tm_nf 7)) hx hb hK hP hD hS o t0 v 7 hg ht hgv (tm_clf (by decide)) (ti_inb hi) hd (fun H1 locs1 h1 h2 h3 => kM _ H1 locs1 _ _ hz rfl (tm_wf_up hwf (List.getElem?_eq_some_iff.mp hV).1) (eW ▸ h1) (eW ▸ h2) h3)
  | arraylength =>
    obtain rfl : ln = 1 := by simpa [tm_lnk] using hlk
    obtain ⟨o, r, rfl, ho⟩ := ti_alen he
    rcases ho with ⟨rfl, hz⟩ | ⟨h1, hz⟩ | ⟨kd, n, hL, h12, hz⟩
    · exact va_slen hx hb F.2.2.2.2.2.2.2.1 F.2.2.2.2.2.2.2.2.1 F.2.2.2.2.2.2.2.2.2.1 hS hd (k1 _ _ hz)
    · obtain ⟨j, hj, rfl⟩ : ∃ j, j < 3 ∧ o = 1100 + j := ⟨o - 1100, by omega, by omega⟩
      have hT := (F.1.1 j hj).2.2.2
      rw [Nat.add_sub_cancel_left] at hz
      exact va_tlen hx hb hT hS rfl hd (k1 _ _ hz)
    · have hg := tm_W_get (ad := ad) (cf := cf) hL
      obtain ⟨t0, ht⟩ := hty o _ hL h12
      have hg2 : ∃ y : vp_A, y.1 = n ∧ (tm_W ad cf S.1)[o]? = some (ad o, .inl (cf o, y)) := by
        rw [hg]
        unfold tm_en
        rw [if_neg (by show ¬ kd < 12; omega)]
        dsimp only
        split
        · exact ⟨_, rfl, rfl⟩
        · split
          · exact ⟨_, rfl, rfl⟩
          · exact ⟨_, rfl, rfl⟩
      obtain ⟨y, hy, hg2⟩ := hg2
      exact va_alen hx hb hK hP o t0 hg2 ht (by rw [hy]) hd (k1 _ _ hz)
  | new idx =>
    simp only [tm_lnk, Bool.and_eq_true, beq_iff_eq, decide_eq_true_eq] at hlk
    obtain ⟨rfl, hw⟩ := hlk
    obtain ⟨ha, hl9, hvb, hq1, hq2, hz⟩ := ti_new he
    subst hz
    have hm := List.mem_of_getElem? hw
    have hcs : a ∈ tm_cs := tm_cs_mem ha
    refine va_new (ci := a) (fs := tm_fs ad ((S.1.1 ++ [(a, tm_nf a)], va_up S.1.2.1 S.1.1.length (fun _ => 0), S.1.2.2.1, va_up S.1.2.2.2 S.1.1.length (fun _ => none)) : tm_Mem) S.1.1.length a) hx hb hts (tm_layf ha) (tm_ty a) (tm_tyf ha) hown (hts _ (tm_inw (tm_C_in _ hm) rfl)) (hts _ (tm_inw (tm_ic_in _ hcs) rfl)) (hts _ (tm_inw (tm_cini_in _ hcs) rfl)) hK hP hD hS hA (tm_clf ha) (fun j hj => tm_dflt ha hj tm_up_s tm_up_s) hq1 hq2 hd (fun q H1 h1 h2 h3 => ?_)
    have hag : ∀ j, j ≠ S.1.1.length → va_up ad S.1.1.length q j = ad j := fun j hj => tm_up_n hj
    have eW := tm_W_push (ad := ad) (ad' := va_up ad S.1.1.length q) (cf := cf) (cf' := cf) (M := S.1) (M' := (S.1.1 ++ [(a, tm_nf a)], va_up S.1.2.1 S.1.1.length (fun _ => 0), S.1.2.2.1, va_up S.1.2.2.2 S.1.1.length (fun _ => none))) rfl (fun j hj => tm_up_n (by omega)) (fun _ _ => rfl) (fun j hj => tm_up_n (by omega)) (fun j hj => ⟨hag j (by omega), rfl⟩) hwf
    rw [tm_en_o ha, tm_up_s, tm_fs_ad tm_up_s] at eW
    obtain ⟨hv1, hv2⟩ := tm_vb_app hvb
    have key := kk (va_up ad S.1.1.length q) cf tys H1 locs lsR ⟨fun j hj => ⟨hag j (by omega), rfl⟩, by simp, fun h => by simp at h⟩ (by simp; omega) hq1 hq2 ⟨hK, by rw [eW]; exact h1, by rw [eW]; exact h2, tm_ty_app ha hty, tm_wf_new hwf, by simp; omega⟩ h3 (tm_lv_ad hl hv1 (fun j hj => hag j (by omega))) hn hN
    dsimp only at key
    rw [List.map_cons, tm_st_ad hv2 (fun j hj => hag j (by omega))] at key
    rw [show tm_tr (va_up ad S.1.1.length q) fm (.ref S.1.1.length) = .ref q from congrArg Value.ref tm_up_s] at key
    exact key
  | newarray t =>
    obtain rfl : ln = 2 := by simpa [tm_lnk] using hlk
    obtain ⟨n, r, rfl, h12, hl9, hvb, hn0, hn1, hq1, hq2, hz⟩ := ti_newa he
    subst hz
    obtain ⟨hv1, hv2⟩ := tm_vb_app hvb
    have hv3 : tm_vb S.1.1.length r = true := List.all_eq_true.mpr (fun w hw => List.all_eq_true.mp hv2 w (List.mem_cons_of_mem _ hw))
    have goal : ∀ (ty : FieldType), newarray.typeOf t = ty → tm_akt (tm_nak t) = ty → (Cond.arrayClass (newarray.typeOf t)).before args s = true → componentBytes ty ≤ 8 → (∀ cA : ClassId, ∃ a0 : vp_A, vp_cell cA a0 = arrV cA n.toNatClampNeg (fun _ => defaultValue ty) ∧ ∀ (ad' : Nat → Nat) (cf' : Nat → ClassId) (M' : tm_Mem) (j : Nat), M'.2.1 j = (fun _ => 0) → M'.2.2.1 j = (fun _ => 0) → M'.2.2.2 j = (fun _ => none) → tm_en ad' cf' M' j (tm_nak t, n.toNatClampNeg) = (ad' j, .inl (cf' j, a0))) → W p l e (tm_room k) s m args below meth c H locs S.2.1 S.2.2 Q (F0 m pc lsR ((Value.int n :: r).map (tm_tr ad fm))) := by
      intro ty e1 e2 hac hcb ha0
      obtain ⟨a0, hcell, hen⟩ := ha0 0
      have hcell' : ∀ cA : ClassId, vp_cell cA a0 = arrV cA n.toNatClampNeg (fun _ => defaultValue ty) := by
        intro cA
        obtain ⟨a1, h1, h2⟩ := ha0 cA
        have h3 := hen ad (fun _ => 0) ([], fun _ _ => 0, fun _ _ => 0, fun _ _ => none) 0 rfl rfl rfl
        have h4 := h2 ad (fun _ => 0) ([], fun _ _ => 0, fun _ _ => 0, fun _ _ => none) 0 rfl rfl rfl
        rw [h3] at h4
        have h5 : a0 = a1 := by
          have := (Prod.mk.inj h4).2
          injection this with this
          exact (Prod.mk.inj this).2
        rw [h5]; exact h1
      refine va_newa (atype := t) hx hb hac e1 hK hP hD hS hA (a0 := a0) (N' := n.toNatClampNeg) hcell' hn0 rfl (Nat.le_trans (Nat.mul_le_mul hn1 hcb) (by decide)) hq1 hq2 hd (fun q cA H1 hK' h1 h2 h3 => ?_)
      have hag : ∀ j, j ≠ S.1.1.length → va_up ad S.1.1.length q j = ad j := fun j hj => tm_up_n hj
      have hcg : ∀ j, j ≠ S.1.1.length → va_up cf S.1.1.length cA j = cf j := fun j hj => tm_up_n hj
      have eW := tm_W_push (ad := ad) (ad' := va_up ad S.1.1.length q) (cf := cf) (cf' := va_up cf S.1.1.length cA) (M := S.1) (M' := (S.1.1 ++ [(tm_nak t, n.toNatClampNeg)], va_up S.1.2.1 S.1.1.length (fun _ => 0), va_up S.1.2.2.1 S.1.1.length (fun _ => 0), va_up S.1.2.2.2 S.1.1.length (fun _ => none))) rfl (fun j hj => tm_up_n (by omega)) (fun j hj => tm_up_n (by omega)) (fun j hj => tm_up_n (by omega)) (fun j hj => ⟨hag j (by omega), hcg j (by omega)⟩) hwf
      rw [hen _ _ _ _ tm_up_s tm_up_s tm_up_s, tm_up_s, tm_up_s] at eW
      have key := kk (va_up ad S.1.1.length q) (va_up cf S.1.1.length cA) (tys ++ [(cA, ty)]) H1 locs lsR ⟨fun j hj => ⟨hag j (by omega), hcg j (by omega)⟩, by simp, fun h => by simp at h⟩ (by simp; omega) hq1 hq2 ⟨hK', by rw [eW]; exact h1, by rw [eW]; exact h2, tm_ty_push e2 hty, tm_wf_new hwf, by simp; omega⟩ h3 (tm_lv_ad hl hv1 (fun j hj => hag j (by omega))) hn hN
      dsimp only at key
      rw [List.map_cons, tm_st_ad hv3 (fun j hj => hag j (by omega))] at key
      rw [show tm_tr (va_up ad S.1.1.length q) fm (.ref S.1.1.length) = .ref q from congrArg Value.ref tm_up_s] at key
      exact key
    cases t with
    | char => exact goal .char rfl rfl (hts _ (tm_inw tm_w_achar rfl)) (by decide) (fun cA => ⟨(n.toNatClampNeg, .inl (fun _ => 0)), rfl, fun ad' cf' M' j h1 h2 h3 => by rw [show tm_nak .char = 12 from rfl, tm_en_i (Or.inl rfl), h1]⟩)
    | int => exact goal .int rfl rfl (hts _ (tm_inw tm_w_aint rfl)) (by decide) (fun cA => ⟨(n.toNatClampNeg, .inl (fun _ => 0)), rfl, fun ad' cf' M' j h1 h2 h3 => by rw [show tm_nak .int = 13 from rfl, tm_en_i (Or.inr (Or.inl rfl)), h1]⟩)
    | long => exact goal .long rfl rfl (hts _ (tm_inw tm_w_along rfl)) (by decide) (fun cA => ⟨(n.toNatClampNeg, .inr (.inl (fun _ => 0))), rfl, fun ad' cf' M' j h1 h2 h3 => by rw [show tm_nak .long = 14 from rfl, tm_en_l, h2]⟩)
    | boolean => exact goal .boolean rfl rfl (hts _ (tm_inw tm_w_aboolean rfl)) (by decide) (fun cA => ⟨(n.toNatClampNeg, .inl (fun _ => 0)), rfl, fun ad' cf' M' j h1 h2 h3 => by rw [show tm_nak .boolean = 15 from rfl, tm_en_i (Or.inr (Or.inr rfl)), h1]⟩)
    | _ => exact absurd h12 (by decide)
  | anewarray idx =>
    simp only [tm_lnk, Bool.and_eq_true, beq_iff_eq, decide_eq_true_eq] at hlk
    obtain ⟨rfl, hw⟩ := hlk
    obtain ⟨n, r, rfl, h12, hl9, hvb, hn0, hn1, hq1, hq2, hz⟩ := ti_newa he
    subst hz
    have hm := List.mem_of_getElem? hw
    obtain ⟨hv1, hv2⟩ := tm_vb_app hvb
    have hv3 : tm_vb S.1.1.length r = true := List.all_eq_true.mpr (fun w hw => List.all_eq_true.mp hv2 w (List.mem_cons_of_mem _ hw))
    have hao : va_AO "TypedRooms$State" s := F.2.2.2.2.2.2.2.2.2.2.1
    refine va_newq hx hb hown (hts _ (tm_inw (tm_C_in _ hm) rfl)) hao hK hP hD hS hA (N' := n.toNatClampNeg) hn0 rfl (Nat.le_trans (Nat.mul_le_mul_right 4 hn1) (by decide)) hq1 hq2 hd (fun q cA H1 hK' h1 h2 h3 => ?_)
    have hag : ∀ j, j ≠ S.1.1.length → va_up ad S.1.1.length q j = ad j := fun j hj => tm_up_n hj
    have hcg : ∀ j, j ≠ S.1.1.length → va_up cf S.1.1.length cA j = cf j := fun j hj => tm_up_n hj
    have eW := tm_W_push (ad := ad) (ad' := va_up ad S.1.1.length q) (cf := cf) (cf' := va_up cf S.1.1.length cA) (M := S.1) (M' := (S.1.1 ++ [(16, n.toNatClampNeg)], va_up S.1.2.1 S.1.1.length (fun _ => 0), va_up S.1.2.2.1 S.1.1.length (fun _ => 0), va_up S.1.2.2.2 S.1.1.length (fun _ => none))) rfl (fun j hj => tm_up_n (by omega)) (fun j hj => tm_up_n (by omega)) (fun j hj => tm_up_n (by omega)) (fun j hj => ⟨hag j (by omega), hcg j (by omega)⟩) hwf
    rw [tm_en_q] at eW
    dsimp only at eW
    rw [tm_up_s, tm_up_s, tm_up_s] at eW
    have key := kk (va_up ad S.1.1.length q) (va_up cf S.1.1.length cA) (tys ++ [(cA, .object "TypedRooms$State")]) H1 locs lsR ⟨fun j hj => ⟨hag j (by omega), hcg j (by omega)⟩, by simp, fun h => by simp at h⟩ (by simp; omega) hq1 hq2 ⟨hK', by rw [eW]; exact h1, by rw [eW]; exact h2, tm_ty_push rfl hty, tm_wf_new hwf, by simp; omega⟩ h3 (tm_lv_ad hl hv1 (fun j hj => hag j (by omega))) hn hN
    dsimp only at key
    rw [List.map_cons, tm_st_ad hv3 (fun j hj => hag j (by omega))] at key
    rw [show tm_tr (va_up ad S.1.1.length q) fm (.ref S.1.1.length) = .ref q from congrArg Value.ref tm_up_s] at key
    exact key
  | invokestatic idx =>
    simp only [tm_lnk, Bool.and_eq_true, Bool.or_eq_true, beq_iff_eq, decide_eq_true_eq, Bool.not_eq_true', beq_eq_false_iff_ne] at hlk
    obtain ⟨⟨⟨⟨rfl, -⟩, hl9⟩, hl6⟩, hl7⟩ := hlk
    simp only [tm_exec] at he
    split at he
    · rename_i h9
      have hm : (tm_o k, idx) ∈ tm_al := by
        rcases hl9 with q | q
        · exact absurd h9 q
        · exact q
      obtain ⟨n, dp, ar, sp, a0, n0, n1, rfl, hL0, hL1, g1, g2, g3, g4, g5, hz⟩ := ti_copy he
      have hg0 := tm_W_get (ad := ad) (cf := cf) hL0
      rw [tm_en_i (Or.inr (Or.inl rfl))] at hg0
      have hg1 := tm_W_get (ad := ad) (cf := cf) hL1
      rw [tm_en_i (Or.inr (Or.inl rfl))] at hg1
      obtain ⟨t0, ht0⟩ := hty a0 _ hL0 (tm_12 _)
      obtain ⟨t1, ht1⟩ := hty ar _ hL1 (tm_12 _)
      have eW := tm_W_set (ad := ad) (cf := cf) (M := S.1) (M' := (S.1.1, va_up S.1.2.1 ar (va_cpy (S.1.2.1 a0) (S.1.2.1 ar) sp.toNatClampNeg dp.toNatClampNeg n.toNatClampNeg), S.1.2.2.1, S.1.2.2.2)) rfl hL1 (fun j hj => tm_up_n hj) (fun _ _ => rfl) (fun _ _ => rfl)
      rw [tm_en_i (Or.inr (Or.inl rfl))] at eW
      dsimp only at eW
      rw [show va_up S.1.2.1 ar (va_cpy (S.1.2.1 a0) (S.1.2.1 ar) sp.toNatClampNeg dp.toNatClampNeg n.toNatClampNeg) ar = va_cpy (S.1.2.1 a0) (S.1.2.1 ar) sp.toNatClampNeg dp.toNatClampNeg n.toNatClampNeg from tm_up_s] at eW
      exact va_copyi (ty := .int) (rest := []) hx hb (by rw [hml, hl.1]) hown (hts _ (tm_inw (tm_al_in _ hm) rfl)) (hts _ (tm_inw tm_w_arr1 rfl)) (hts _ (tm_inw tm_w_arr2 rfl)) (hts _ (tm_inw tm_w_arr3 rfl)) hK hP hD hS a0 ar t0 t1 hg0 hg1 ht0 ht1 rfl g1 g2 g3 g4 g5 (fun _ _ => rfl) hf1 (Nat.le_trans (by decide) hl24) hd (fun H1 locs1 h1 h2 h3 => kM _ H1 locs1 _ _ hz rfl hwf (eW ▸ h1) (eW ▸ h2) h3)
    · split at he
      · rename_i h6
        have hm : (tm_o k, idx) ∈ tm_minl := by
          rcases hl6 with q | q
          · exact absurd h6 q
          · exact q
        split at he
        · rename_i hsum
          obtain ⟨x, y, r, w, rfl, hw, hz⟩ := ti_op2 he
          cases hw
          exact va_mmin hx hb (by rw [hml, hl.1]) hown (hts _ (tm_inw (tm_minl_in _ hm) rfl)) (hts _ (tm_inw tm_w_min1 rfl)) (hts _ (tm_inw tm_w_math rfl)) (hts _ (tm_inw tm_w_min2 rfl)) hf1 (tm_sum_ok F.2.2.2.1 hsum hl24) hc1 hc2 hd (k1 _ _ hz)
        · cases he
      · split at he
        · rename_i h7
          have hm : (tm_o k, idx) ∈ tm_maxl := by
            rcases hl7 with q | q
            · exact absurd h7 q
            · exact q
          split at he
          · rename_i hsum
            obtain ⟨x, y, r, w, rfl, hw, hz⟩ := ti_op2 he
            cases hw
            exact va_mmax hx hb (by rw [hml, hl.1]) hown (hts _ (tm_inw (tm_maxl_in _ hm) rfl)) (hts _ (tm_inw tm_w_max1 rfl)) (hts _ (tm_inw tm_w_math rfl)) (hts _ (tm_inw tm_w_max2 rfl)) hf1 (tm_sum_ok F.2.2.2.1 hsum hl24) hc1 hc2 hd (k1 _ _ hz)
          · cases he
        · cases he
  | invokespecial idx =>
    simp only [tm_lnk, Bool.and_eq_true, Bool.or_eq_true, beq_iff_eq, decide_eq_true_eq, Bool.not_eq_true', beq_eq_false_iff_ne] at hlk
    obtain ⟨⟨rfl, -⟩, hl8⟩ := hlk
    simp only [tm_exec] at he
    split at he
    · rename_i h8
      have hm : (tm_o k, idx) ∈ tm_ol := by
        rcases hl8 with q | q
        · exact absurd h8 q
        · exact q
      split at he
      · rename_i o r
        split at he
        · rename_i hsum
          refine W.objInit hx hb hown (hts _ (tm_inw (tm_ol_in _ hm) rfl)) (hts _ (tm_inw tm_w_obj rfl)) (hts _ (tm_inw tm_w_objc rfl)) (g := F0 m pc lsR ((Value.ref o :: r).map (tm_tr ad fm))) rfl (by rw [hml]; exact hl.1) rfl hd hf1 ?_ (k1 _ _ (ti_nx he))
          have := tm_sum_map (ad := ad) (fm := fm) F.2.2.2.1 r
          have h9 : ((r.map (tm_tr ad fm)).map fun v => v.category).sum ≤ 8 := by rw [this]; exact hsum
          show 2 * 0 + _ + 12 ≤ tm_l k
          omega
        · cases he
      · cases he
    · cases he
  | _ => simp [tm_exec] at he
end STEP

