/-! ===== the small machine's states over the real heap ===== -/
def tm_ws : List Cond := lw_tbl.filter goodWord
theorem tm_inw {w : Cond} (h : w ∈ lw_tbl) (hg : goodWord w = true) : w ∈ tm_ws := List.mem_filter.mpr ⟨h, hg⟩
def tm_words (k : Nat) : List Cond := .code (tm_y k) (tm_b k) (tm_x k) (tm_t k) :: tm_ws
def tm_room (k : Nat) : Room := { frames := tm_f k, cells := tm_mc k, slots := tm_ms k, locals := tm_l k }
theorem tm_mem_ks {k : Nat} (h0 : 0 < k) (h : k < tm_N) : k ∈ tm_ks := by
  have h1 : (List.range 213).all (fun i => decide (i + 1 ∈ tm_ks)) = true := by decide +kernel
  have h2 := List.all_eq_true.mp h1 (k - 1) (List.mem_range.mpr (by have : tm_N = 214 := rfl; omega))
  rw [Nat.sub_add_cancel h0] at h2
  exact of_decide_eq_true h2
theorem tm_gw {k : Nat} (h0 : 0 < k) (h : k < tm_N) : GoodIn tm_ws (tm_words k) := by
  intro w hw
  have hc : w ∈ tm_ws := by
    rcases List.mem_cons.mp hw with q | q
    · rw [q]; exact tm_inw (tm_code_in k (tm_mem_ks h0 h)) rfl
    · exact q
  exact ⟨hc, good_of_word (List.mem_filter.mp hc).2⟩
def tm_tr (ad : Nat → Nat) (fm : Value) : Value → Value
  | .ref a => .ref (ad a)
  | .retAddr _ => fm
  | v => v
theorem tm_tr_rf (ad : Nat → Nat) (fm : Value) (r : Option Nat) : tm_tr ad fm (va_rf r) = va_rf (r.map ad) := by cases r <;> rfl
def tm_fv (ad : Nat → Nat) (M : tm_Mem) (k ci j : Nat) : Value := if tm_isr ci j = true then va_rf ((M.2.2.2 k j).map ad) else .int (M.2.1 k j)
def tm_fs (ad : Nat → Nat) (M : tm_Mem) (k ci : Nat) : List Value := (List.range (tm_nf ci)).map (tm_fv ad M k ci)
def tm_en (ad : Nat → Nat) (cf : Nat → ClassId) (M : tm_Mem) (k : Nat) (sh : Nat × Nat) : Nat × va_E :=
  (ad k, if sh.1 < 12 then .inr (sh.1, tm_fs ad M k sh.1) else if sh.1 = 14 then .inl (cf k, sh.2, .inr (.inl (M.2.2.1 k))) else if sh.1 = 16 then .inl (cf k, sh.2, .inr (.inr (.inr (.inr (fun j => (M.2.2.2 k j).map ad))))) else .inl (cf k, sh.2, .inl (M.2.1 k)))
def tm_W (ad : Nat → Nat) (cf : Nat → ClassId) (M : tm_Mem) : va_W := M.1.mapIdx (tm_en ad cf M)
theorem tm_W_get {ad : Nat → Nat} {cf : Nat → ClassId} {M : tm_Mem} {k : Nat} {sh : Nat × Nat} (h : M.1[k]? = some sh) : (tm_W ad cf M)[k]? = some (tm_en ad cf M k sh) := by
  rw [tm_W, List.getElem?_mapIdx, h]; rfl
theorem tm_W_some {ad : Nat → Nat} {cf : Nat → ClassId} {M : tm_Mem} {k : Nat} {q : Nat × va_E} (h : (tm_W ad cf M)[k]? = some q) : ∃ sh, M.1[k]? = some sh ∧ q = tm_en ad cf M k sh := by
  rw [tm_W, List.getElem?_mapIdx] at h
  cases hs : M.1[k]? with
  | none => rw [hs] at h; cases h
  | some sh => rw [hs] at h; exact ⟨sh, rfl, (Option.some.inj h).symm⟩
theorem tm_en_o {ad : Nat → Nat} {cf : Nat → ClassId} {M : tm_Mem} {k ci n : Nat} (h : ci < 12) : tm_en ad cf M k (ci, n) = (ad k, .inr (ci, tm_fs ad M k ci)) := by
  unfold tm_en; rw [if_pos h]
theorem tm_en_l {ad : Nat → Nat} {cf : Nat → ClassId} {M : tm_Mem} {k n : Nat} : tm_en ad cf M k (14, n) = (ad k, .inl (cf k, n, .inr (.inl (M.2.2.1 k)))) := rfl
theorem tm_en_q {ad : Nat → Nat} {cf : Nat → ClassId} {M : tm_Mem} {k n : Nat} : tm_en ad cf M k (16, n) = (ad k, .inl (cf k, n, .inr (.inr (.inr (.inr (fun j => (M.2.2.2 k j).map ad)))))) := rfl
theorem tm_en_i {ad : Nat → Nat} {cf : Nat → ClassId} {M : tm_Mem} {k kd n : Nat} (h : kd = 12 ∨ kd = 13 ∨ kd = 15) : tm_en ad cf M k (kd, n) = (ad k, .inl (cf k, n, .inl (M.2.1 k))) := by
  rcases h with rfl | rfl | rfl <;> rfl
/-- one cell changes -/
theorem tm_W_set {ad : Nat → Nat} {cf : Nat → ClassId} {M M' : tm_Mem} {o : Nat} {sh : Nat × Nat} (hL : M'.1 = M.1) (ho : M.1[o]? = some sh) (hI : ∀ k, k ≠ o → M'.2.1 k = M.2.1 k) (hJ : ∀ k, k ≠ o → M'.2.2.1 k = M.2.2.1 k) (hR : ∀ k, k ≠ o → M'.2.2.2 k = M.2.2.2 k) : (tm_W ad cf M).set o (tm_en ad cf M' o sh) = tm_W ad cf M' := by
  apply List.ext_getElem?
  intro k
  by_cases hk : k = o
  · subst hk
    have hl : k < (tm_W ad cf M).length := (List.getElem?_eq_some_iff.mp (tm_W_get (ad := ad) (cf := cf) ho)).1
    rw [List.getElem?_set_self hl, tm_W_get (M := M') (by rw [hL]; exact ho)]
  · rw [List.getElem?_set_ne (Ne.symm hk), tm_W, tm_W, List.getElem?_mapIdx, List.getElem?_mapIdx, hL]
    have e : tm_en ad cf M k = tm_en ad cf M' k := by
      funext s
      unfold tm_en tm_fs
      have e2 : tm_fv ad M k = tm_fv ad M' k := by
        funext ci j
        unfold tm_fv
        rw [hI k hk, hR k hk]
      rw [e2, hI k hk, hJ k hk, hR k hk]
    rw [e]
theorem tm_va_D_set_eq {A : Nat → Prop} {ad : Nat → Nat} {cf : Nat → ClassId} {M : tm_Mem} {D : va_G} {H : Heap} {W' : va_W} (h1 : va_P D tm_cl W' H) (e : W' = tm_W ad cf M) : va_P D tm_cl (tm_W ad cf M) H := e ▸ h1
/-- the static facts: strings, two statics, the script -/
def tm_SF (E : tm_Env) (ad : Nat → Nat) (fm : Value) (A : Nat → Prop) (s : State) (H : Heap) : Prop :=
  vk_S 3 tm_len tm_byt (fun i => ad (1000 + i)) (fun i => ad (1100 + i)) A s H ∧ va_Z "java/lang/String" "COMPACT_STRINGS" "Z" (.int 1) A s H ∧ va_Z "jdk/internal/util/Preconditions" "SIOOBE_FORMATTER" "Ljava/util/function/BiFunction;" fm A s H ∧ fm.category = 1 ∧
  vk_R "TypedRooms$HouseReader" 125 "nsew" (ad 1000) s ∧ vk_R "TypedRooms" 62 "r1;r1;r0;tf-r09sf;taa002co;tabr02co;tbg011;tbhr11;tcc003l;tdg021;tger29cofk03;tdc071;tlhr19ofk04;d01n;d12e09;" (ad 1001) s ∧ vk_R "TypedRooms$Sentence" 46 "box key lamp coin bag table chest book cup rope ball door red blue old new big small gold iron take drop put open close lock unlock light douse go look wait in on from with the it all n s e w " (ad 1002) s ∧
  va_X (ad 2000) E.2 E.1 s H ∧ ad 2000 < H.size ∧ ¬ A (ad 2000) ∧ va_AO "TypedRooms$State" s ∧ (∀ e ∈ tm_M, e.2.2.2 = 1 → va_Nw (.methodLinkNest (tm_cn e.1) e.2.1 (tm_y e.2.2.1) RX10) s)
def tm_ext (M M' : tm_Mem) (ad : Nat → Nat) (cf : Nat → ClassId) (ad' : Nat → Nat) (cf' : Nat → ClassId) : Prop :=
  (∀ k, (k < M.1.length ∨ 1000 ≤ k) → ad' k = ad k ∧ cf' k = cf k) ∧ M.1.length ≤ M'.1.length ∧ (M'.1.length = M.1.length → ad' = ad ∧ cf' = cf)
theorem tm_ext_rf {M M' : tm_Mem} {ad : Nat → Nat} {cf : Nat → ClassId} (h : M'.1.length = M.1.length) : tm_ext M M' ad cf ad cf := ⟨fun _ _ => ⟨rfl, rfl⟩, Nat.le_of_eq h.symm, fun _ => ⟨rfl, rfl⟩⟩
theorem tm_ext_tr {M M1 M2 : tm_Mem} {ad ad1 ad2 : Nat → Nat} {cf cf1 cf2 : Nat → ClassId} (h1 : tm_ext M M1 ad cf ad1 cf1) (h2 : tm_ext M1 M2 ad1 cf1 ad2 cf2) : tm_ext M M2 ad cf ad2 cf2 := by
  refine ⟨fun k hk => ?_, Nat.le_trans h1.2.1 h2.2.1, fun h => ?_⟩
  · have a := h1.1 k hk
    have b := h2.1 k (by have := h1.2.1; omega)
    exact ⟨b.1.trans a.1, b.2.trans a.2⟩
  · have l1 := h1.2.1
    have l2 := h2.2.1
    obtain ⟨a, b⟩ := h1.2.2 (by omega)
    obtain ⟨c, d⟩ := h2.2.2 (by omega)
    exact ⟨c.trans a, d.trans b⟩
def tm_Rel (D : va_G) (A : Nat → Prop) (M : tm_Mem) (ad : Nat → Nat) (cf : Nat → ClassId) (tys : List (ClassId × FieldType)) (H : Heap) (s : State) : Prop :=
  va_K D tm_cl tys s ∧ va_P D tm_cl (tm_W ad cf M) H ∧ va_D A (tm_W ad cf M) ∧ (∀ k sh, M.1[k]? = some sh → 12 ≤ sh.1 → ∃ t0 : Nat, tys[t0]? = some (cf k, tm_akt sh.1)) ∧ (∀ k j a, M.2.2.2 k j = some a → a < M.1.length) ∧ M.1.length < 1000
/-- the locals that hold something -/
def tm_lv (ad : Nat → Nat) (fm : Value) (ls : List Value) : List (Nat × Value) := (List.range ls.length).filterMap (fun (i : Nat) => match (ls[i]? : Option Value) with
  | some (.retAddr _) => none
  | some v => some (i, tm_tr ad fm v)
  | none => none)
theorem tm_lv_mem {ad : Nat → Nat} {fm : Value} {ls : List Value} {i : Nat} {v : Value} (h : ls[i]? = some v) (hv : ∀ a, v ≠ .retAddr a) : (i, tm_tr ad fm v) ∈ tm_lv ad fm ls := by
  refine List.mem_filterMap.mpr ⟨i, List.mem_range.mpr (List.getElem?_eq_some_iff.mp h).1, ?_⟩
  rw [h]
  cases v with
  | retAddr a => exact absurd rfl (hv a)
  | _ => rfl
theorem tm_lv_of {ad : Nat → Nat} {fm : Value} {ls : List Value} {q : Nat × Value} (h : q ∈ tm_lv ad fm ls) : ∃ v, ls[q.1]? = some v ∧ (∀ a, v ≠ .retAddr a) ∧ q.2 = tm_tr ad fm v := by
  obtain ⟨i, -, hi⟩ := List.mem_filterMap.mp h
  cases hv : ls[i]? with
  | none => rw [hv] at hi; cases hi
  | some v =>
    rw [hv] at hi
    cases v with
    | retAddr a => cases hi
    | _ => cases hi; exact ⟨_, hv, (fun a e => Value.noConfusion e), rfl⟩
theorem tm_lv_at {ad : Nat → Nat} {fm : Value} {ls : List Value} {lsR : Array Slot} {nL i : Nat} {v : Value} (hl : lv_has lsR nL (tm_lv ad fm ls)) (h : ls[i]? = some v) (hv : ∀ a, v ≠ .retAddr a) : lsR[i]? = some (.val (tm_tr ad fm v)) := hl.2.2 _ (tm_lv_mem h hv)
/-- the translations agree: the locals stand -/
theorem tm_lv_ad {ad ad' : Nat → Nat} {fm : Value} {ls : List Value} {lsR : Array Slot} {nL n : Nat} (hl : lv_has lsR nL (tm_lv ad fm ls)) (hv : tm_vb n ls = true) (he : ∀ k, (k < n ∨ 1000 ≤ k) → ad' k = ad k) : lv_has lsR nL (tm_lv ad' fm ls) := by
  refine ⟨hl.1, hl.2.1, fun q hq => ?_⟩
  obtain ⟨v, h1, h2, h3⟩ := tm_lv_of hq
  have h4 := tm_lv_at hl h1 h2
  rw [h4, h3]
  have h5 := List.all_eq_true.mp hv v (List.mem_of_getElem? h1)
  cases v <;> first | rfl | (simp only [tm_tr]; rw [he _ (of_decide_eq_true h5)])
theorem tm_st_ad {ad ad' : Nat → Nat} {fm : Value} {n : Nat} : ∀ {st : List Value}, tm_vb n st = true → (∀ k, (k < n ∨ 1000 ≤ k) → ad' k = ad k) → st.map (tm_tr ad' fm) = st.map (tm_tr ad fm)
  | [], _, _ => rfl
  | v :: st, hv, he => by
    have h5 := List.all_eq_true.mp hv v List.mem_cons_self
    have h6 : tm_vb n st = true := List.all_eq_true.mpr (fun w hw => List.all_eq_true.mp hv w (List.mem_cons_of_mem _ hw))
    rw [List.map_cons, List.map_cons, tm_st_ad h6 he]
    congr 1
    cases v <;> first | rfl | (simp only [tm_tr]; rw [he _ (of_decide_eq_true h5)])
theorem tm_tr_cat {ad : Nat → Nat} {fm v : Value} (hv : ∀ a, v ≠ .retAddr a) : (tm_tr ad fm v).category = v.category := by
  cases v with
  | retAddr a => exact absurd rfl (hv a)
  | _ => rfl
/-- a method without longs has none among its locals -/
def tm_nl (k : Nat) (ls : List Value) : Prop := tm_hl k = false → ∀ v ∈ ls, v.category ≠ 2
theorem tm_nl_set {k i : Nat} {ls : List Value} {v : Value} (h : tm_nl k ls) (hv : v.category ≠ 2) : tm_nl k (ls.set i v) := fun hk u hu => by
  rcases List.mem_or_eq_of_mem_set hu with q | q
  · exact h hk u q
  · rw [q]; exact hv
theorem tm_free_lv {ad : Nat → Nat} {fm : Value} {k : Nat} {ls : List Value} {i : Nat} (hn : tm_nl k ls) (hf : tm_free k ls i = true) {q : Nat × Value} (h : q ∈ tm_lv ad fm ls) (h1 : q.1 + 1 = i) : ¬ q.2.category = 2 := by
  obtain ⟨v, h2, h3, h4⟩ := tm_lv_of h
  rw [h4, tm_tr_cat h3]
  cases hk : tm_hl k with
  | false => exact hn hk v (List.mem_of_getElem? h2)
  | true =>
    subst h1
    simp only [tm_free, hk, h2, Bool.not_true, Bool.false_or] at hf
    exact of_decide_eq_true hf
theorem tm_lv_set {ad : Nat → Nat} {fm : Value} {k : Nat} {ls : List Value} {lsR : Array Slot} {nL i : Nat} {v : Value} (hn : tm_nl k ls) (hf : tm_free k ls i = true) (hi : i < ls.length)
    (h : lv_has lsR nL ((i, tm_tr ad fm v) :: (tm_lv ad fm ls).filter (fun q => !(q.1 == i) && !(q.1 + 1 == i && q.2.category == 2)))) : lv_has lsR nL (tm_lv ad fm (ls.set i v)) := by
  refine ⟨h.1, h.2.1, fun q hq => h.2.2 q ?_⟩
  obtain ⟨u, h1, h2, h3⟩ := tm_lv_of hq
  obtain ⟨j, w⟩ := q
  dsimp only at h1 h3
  subst h3
  by_cases hj : j = i
  · subst hj
    rw [List.getElem?_set_self hi] at h1
    cases h1
    exact List.mem_cons_self
  · rw [List.getElem?_set_ne (Ne.symm hj)] at h1
    have hm := tm_lv_mem (ad := ad) (fm := fm) h1 h2
    refine List.mem_cons_of_mem _ (List.mem_filter.mpr ⟨hm, ?_⟩)
    by_cases hc : j + 1 = i
    · have hx := tm_free_lv hn hf hm hc
      simp [hj, hx]
    · simp [hj, hc]
theorem tm_lv_setL {ad : Nat → Nat} {fm : Value} {k : Nat} {ls : List Value} {lsR : Array Slot} {nL i : Nat} {v : Value} (hn : tm_nl k ls) (hf : tm_free k ls i = true) (hi : i + 1 < ls.length)
    (h : lv_has lsR nL ((i, tm_tr ad fm v) :: (tm_lv ad fm ls).filter (fun q => !(q.1 == i) && (!(q.1 == i + 1) && !(q.1 + 1 == i && q.2.category == 2))))) : lv_has lsR nL (tm_lv ad fm ((ls.set i v).set (i + 1) tm_dum)) := by
  refine ⟨h.1, h.2.1, fun q hq => h.2.2 q ?_⟩
  obtain ⟨u, h1, h2, h3⟩ := tm_lv_of hq
  obtain ⟨j, w⟩ := q
  dsimp only at h1 h3
  subst h3
  by_cases hj1 : j = i + 1
  · subst hj1
    rw [List.getElem?_set_self (by rw [List.length_set]; exact hi)] at h1
    cases h1
    exact absurd rfl (h2 0)
  · rw [List.getElem?_set_ne (Ne.symm hj1)] at h1
    by_cases hj : j = i
    · subst hj
      rw [List.getElem?_set_self (by omega)] at h1
      cases h1
      exact List.mem_cons_self
    · rw [List.getElem?_set_ne (Ne.symm hj)] at h1
      have hm := tm_lv_mem (ad := ad) (fm := fm) h1 h2
      refine List.mem_cons_of_mem _ (List.mem_filter.mpr ⟨hm, ?_⟩)
      by_cases hc : j + 1 = i
      · have hx := tm_free_lv hn hf hm hc
        simp [hj, hj1, hx]
      · simp [hj, hj1, hc]
/-- what holds at every instruction of method k -/
def tm_Ctx (p : Program) (k : Nat) (s : State) (m : MethodId) (args : Array Value) (meth : Method) (c : Code) : Prop :=
  p.tables.exec = Jvm.exec ∧ c.code = tm_b k ∧ c.maxLocals = tm_x k ∧ meth.sig.returnType = tm_t k ∧ s.vm.findClass (tm_cn (tm_o k)) = some m.cls ∧ (∀ w ∈ tm_ws, w.before args s = true) ∧ meth.locks = false ∧ (tm_kd k = 2 → meth.name = "<init>")
theorem tm_12 {kd : Nat} (n : Nat) (h : 12 ≤ kd := by decide) : 12 ≤ (kd, n).1 := h
