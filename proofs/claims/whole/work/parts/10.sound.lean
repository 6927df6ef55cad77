/-! ===== a run of the small machine is a run of the machine ===== -/
theorem tm_Rel_moved {D : va_G} {A : Nat → Prop} {M : tm_Mem} {ad : Nat → Nat} {cf : Nat → ClassId} {tys : List (ClassId × FieldType)} {H : Heap} {u U : State} (hvm : u.vm.Alike U.vm) (h : tm_Rel D A M ad cf tys H u) : tm_Rel D A M ad cf tys H U := ⟨va_K.moved hvm h.1, h.2⟩
theorem tm_Rel_weak {D : va_G} {A B : Nat → Prop} {M : tm_Mem} {ad : Nat → Nat} {cf : Nat → ClassId} {tys : List (ClassId × FieldType)} {H : Heap} {s : State} (hAB : ∀ q, A q → B q) (h : tm_Rel D A M ad cf tys H s) : tm_Rel D B M ad cf tys H s := ⟨h.1, h.2.1, h.2.2.1.weaken (fun _ q _ hq => hAB q.1 hq), h.2.2.2⟩
theorem tm_Rel_self {D : va_G} {A : Nat → Prop} {M : tm_Mem} {ad : Nat → Nat} {cf : Nat → ClassId} {tys : List (ClassId × FieldType)} {H : Heap} {s : State} {sz : Nat} (h : tm_Rel D A M ad cf tys H s) : tm_Rel D (va_A (tm_W ad cf M) sz) M ad cf tys H s := ⟨h.1, h.2.1, h.2.2.1.self, h.2.2.2⟩
theorem tm_SF_warm {E : tm_Env} {ad : Nat → Nat} {fm : Value} {A : Nat → Prop} {s U : State} {H : Heap} (hW : s.WarmedH U.vm) (h : tm_SF E ad fm A s H) : tm_SF E ad fm A U H := by
  obtain ⟨h1, h2, h3, h4, h5, h6, h7, h8, h9, h10, h11, h12⟩ := h
  exact ⟨vk_S.moved hW.alike h1, va_Z.moved hW.alike h2, va_Z.moved hW.alike h3, h4, vk_R.warm hW h5, vk_R.warm hW h6, vk_R.warm hW h7, va_X.moved hW.alike h8, h9, h10, va_AO.moved hW.alike h11, fun e he h => va_Nw.warmM hW (h12 e he h)⟩
theorem tm_SF_same {E : tm_Env} {ad : Nat → Nat} {fm : Value} {A : Nat → Prop} {s U : State} {H : Heap} (hv : U.vm = s.vm) (h : tm_SF E ad fm A s H) : tm_SF E ad fm A U H := by
  have ha : s.vm.Alike U.vm := by rw [hv]; exact Vm.Alike.refl s.vm
  obtain ⟨h1, h2, h3, h4, h5, h6, h7, h8, h9, h10, h11, h12⟩ := h
  exact ⟨vk_S.moved ha h1, va_Z.moved ha h2, va_Z.moved ha h3, h4, vk_R.same hv h5, vk_R.same hv h6, vk_R.same hv h7, va_X.moved ha h8, h9, h10, va_AO.moved ha h11, fun e he h => va_Nw.same rfl hv.symm (h12 e he h)⟩
theorem tm_SF_kept {E : tm_Env} {ad : Nat → Nat} {fm : Value} {A : Nat → Prop} {s : State} {H H1 : Heap} (hz : H.size ≤ H1.size) (hq : ∀ a : Nat, a < H.size → ¬ A a → H1[a]? = H[a]?) (h : tm_SF E ad fm A s H) : tm_SF E ad fm A s H1 := by
  obtain ⟨h1, h2, h3, h4, h5, h6, h7, h8, h9, h10, h11⟩ := h
  exact ⟨h1.kept hq, h2.kept hq, h3.kept hq, h4, h5, h6, h7, h8.kept (hq _ h9 h10), Nat.lt_of_lt_of_le h9 hz, h10, h11⟩
theorem tm_SF_narrow {E : tm_Env} {ad : Nat → Nat} {fm : Value} {A B : Nat → Prop} {s : State} {H : Heap} (hAB : ∀ q, B q → A q) (h : tm_SF E ad fm A s H) : tm_SF E ad fm B s H := by
  obtain ⟨h1, h2, h3, h4, h5, h6, h7, h8, h9, h10, h11⟩ := h
  exact ⟨h1.narrow hAB, h2.narrow hAB, h3.narrow hAB, h4, h5, h6, h7, h8, h9, fun q => h10 (hAB _ q), h11⟩
theorem tm_SF_ad {E : tm_Env} {ad ad' : Nat → Nat} {fm : Value} {A : Nat → Prop} {s : State} {H : Heap} (he : ∀ k, 1000 ≤ k → ad' k = ad k) (h : tm_SF E ad fm A s H) : tm_SF E ad' fm A s H := by
  have e1 : (fun i => ad' (1000 + i)) = (fun i => ad (1000 + i)) := by funext i; exact he _ (by omega)
  have e2 : (fun i => ad' (1100 + i)) = (fun i => ad (1100 + i)) := by funext i; exact he _ (by omega)
  unfold tm_SF
  rw [e1, e2, he 1000 (by decide), he 1001 (by decide), he 1002 (by decide), he 2000 (by decide)]
  exact h
/-- the entry's locals -/
theorem tm_exp_len {ad : Nat → Nat} {fm : Value} (hf : fm.category = 1) : ∀ as : List Value, (lg_sl (as.map (tm_tr ad fm))).length = (tm_exp as).length
  | [] => rfl
  | v :: as => by
    have ih := tm_exp_len (ad := ad) hf as
    unfold lg_sl at ih ⊢
    rw [List.map_cons, List.flatMap_cons, List.length_append, ih, tm_cat_eq hf, tm_exp]
    split <;> simp <;> omega
theorem tm_exp_get {ad : Nat → Nat} {fm : Value} (hf : fm.category = 1) : ∀ (as : List Value) (o i : Nat) (v : Value), (tm_exp as)[i]? = some v → (∀ a, v ≠ .retAddr a) → (o + i, tm_tr ad fm v) ∈ lv_args o (as.map (tm_tr ad fm))
  | [], _, _, _, h, _ => by cases h
  | w :: as, o, i, v, h, hv => by
    rw [tm_exp] at h
    rw [List.map_cons, lv_args, tm_cat_eq hf]
    by_cases hw : w.category = 2
    · rw [if_pos hw] at h ⊢
      match i, h with
      | 0, h => cases h; exact List.mem_cons_self
      | 1, h => cases h; exact absurd rfl (hv 0)
      | i + 2, h =>
        have := tm_exp_get (ad := ad) hf as (o + 2) i v h hv
        rw [show o + 2 + i = o + (i + 2) by omega] at this
        exact List.mem_cons_of_mem _ this
    · rw [if_neg hw] at h ⊢
      match i, h with
      | 0, h => cases h; exact List.mem_cons_self
      | i + 1, h =>
        have := tm_exp_get (ad := ad) hf as (o + 1) i v h hv
        rw [show o + 1 + i = o + (i + 1) by omega] at this
        exact List.mem_cons_of_mem _ this
theorem tm_ent_lv {ad : Nat → Nat} {fm : Value} (hf : fm.category = 1) {a : Nat} {as : List Value} (hl : (tm_exp as).length ≤ tm_x a) : lv_has ((lg_sl (as.map (tm_tr ad fm)) ++ List.replicate (tm_x a - (lg_sl (as.map (tm_tr ad fm))).length) Slot.unset).toArray) (tm_x a) (tm_lv ad fm (tm_ent a as)) := by
  have h := lv_entry (as.map (tm_tr ad fm)) (n := tm_x a) (by rw [tm_exp_len hf]; exact hl)
  refine ⟨h.1, h.2.1, fun q hq => h.2.2 q ?_⟩
  obtain ⟨v, h1, h2, h3⟩ := tm_lv_of hq
  obtain ⟨i, w⟩ := q
  dsimp only at h1 h3
  subst h3
  unfold tm_ent at h1
  by_cases hi : i < (tm_exp as).length
  · rw [List.getElem?_append_left hi] at h1
    have := tm_exp_get (ad := ad) hf as 0 i v h1 h2
    rwa [Nat.zero_add] at this
  · rw [List.getElem?_append_right (by omega), List.getElem?_replicate] at h1
    split at h1
    · cases h1; exact absurd rfl (h2 0)
    · cases h1
theorem tm_ent_len {a : Nat} {as : List Value} (hl : (tm_exp as).length ≤ tm_x a) : (tm_ent a as).length = tm_x a := by
  rw [tm_ent, List.length_append, List.length_replicate]; omega
theorem tm_exp_mem : ∀ {as : List Value} {v : Value}, v ∈ tm_exp as → v ∈ as ∨ v = tm_dum
  | w :: as, v, h => by
    rw [tm_exp] at h
    split at h
    · rcases List.mem_cons.mp h with q | q
      · exact Or.inl (q ▸ List.mem_cons_self)
      · rcases List.mem_cons.mp q with q | q
        · exact Or.inr q
        · exact (tm_exp_mem q).imp_left (List.mem_cons_of_mem _)
    · rcases List.mem_cons.mp h with q | q
      · exact Or.inl (q ▸ List.mem_cons_self)
      · exact (tm_exp_mem q).imp_left (List.mem_cons_of_mem _)
theorem tm_ent_nl {a : Nat} {as : List Value} (h : tm_hl a = true ∨ tm_n2 as = true) : tm_nl a (tm_ent a as) := by
  intro hh v hv
  rcases h with h | h
  · rw [h] at hh; cases hh
  · rcases List.mem_append.mp hv with q | q
    · rcases tm_exp_mem q with q | q
      · exact of_decide_eq_true (List.all_eq_true.mp h v q)
      · rw [q]; decide
    · rw [(List.mem_replicate.mp q).2]; decide
def tm_endOk (k pc : Nat) (r : Option Int32) : Prop := match r with
  | some x => decode (tm_b k) pc = .ok (.ireturn, 1) ∧ ∃ ty, tm_t k = some ty ∧ narrow ty (.int x) = .int x
  | none => decode (tm_b k) pc = .ok (.return_, 1) ∧ tm_t k = none
theorem ti_ret {k pc : Nat} {x : tm_Ins} {st : List Value} {r : Option Int32} (hp : tm_prog k pc = some x) (h : tm_retx k x st = some r) : st = tm_push r [] ∧ tm_endOk k pc r := by
  obtain ⟨i, ln, a, b, c, d⟩ := x
  obtain ⟨-, -, hxk⟩ := tm_prog_ok hp
  simp only [tm_ok, Bool.and_eq_true] at hxk
  obtain ⟨hd0, hlk⟩ := hxk
  have hd := of_decide_eq_true hd0
  unfold tm_retx at h
  split at h
  · rename_i hi
    dsimp only at hi
    subst hi
    obtain rfl : ln = 1 := by simpa [tm_lnk] using hlk
    split at h
    · rename_i x
      split at h
      · rename_i ty ht
        split at h
        · rename_i hn
          cases h
          exact ⟨rfl, hd, ty, ht, hn⟩
        · cases h
      · cases h
    · cases h
  · rename_i hi
    dsimp only at hi
    subst hi
    obtain rfl : ln = 1 := by simpa [tm_lnk] using hlk
    split at h
    · split at h
      · rename_i ht
        cases h
        exact ⟨rfl, hd, ht⟩
      · cases h
    · cases h
  · cases h
theorem tm_ks_t {a : Nat} (h : a ∈ tm_ks) (hk : tm_kd a = 2) : tm_t a = none := by
  have h1 : tm_ks.all (fun a => tm_kd a != 2 || decide (tm_t a = none)) = true := by decide +kernel
  have h2 := List.all_eq_true.mp h1 a h
  simp only [hk, Bool.or_eq_true, decide_eq_true_eq, bne_self_eq_false, Bool.false_eq_true, false_or] at h2
  exact h2
theorem tm_kd_in {a : Nat} (h : a ∈ tm_ks) : (tm_kd a = 0 → a ∈ tm_kv ∧ a ∈ tm_ki) ∧ (tm_kd a = 1 → a ∈ tm_kst) ∧ (tm_kd a = 2 → a ∈ tm_ki) := by
  have h1 : tm_ks.all (fun a => decide ((tm_kd a = 0 → a ∈ tm_kv ∧ a ∈ tm_ki) ∧ (tm_kd a = 1 → a ∈ tm_kst) ∧ (tm_kd a = 2 → a ∈ tm_ki))) = true := by decide +kernel
  exact of_decide_eq_true (List.all_eq_true.mp h1 a h)
/-- what the state before a call is, for the callee -/
def tm_Pre (E : tm_Env) (D : va_G) (M : tm_Mem) (ad : Nat → Nat) (cf : Nat → ClassId) (fm : Value) (tys : List (ClassId × FieldType)) (sz : Nat) (U : State) : Prop :=
  U.heap.size = sz ∧ tm_Rel D (va_A (tm_W ad cf M) sz) M ad cf tys U.heap U ∧ tm_SF E ad fm (va_A (tm_W ad cf M) sz) U U.heap
def tm_Post (D : va_G) (M M' : tm_Mem) (ad : Nat → Nat) (cf : Nat → ClassId) (sz n : Nat) (u : (Nat → Nat) × (Nat → ClassId) × List (ClassId × FieldType)) (t : State) : Prop :=
  tm_ext M M' ad cf u.1 u.2.1 ∧ M'.1.length ≤ M.1.length + n ∧ tm_Rel D (va_A (tm_W ad cf M) sz) M' u.1 u.2.1 u.2.2 t.heap t
def tm_QQ (D : va_G) (M M' : tm_Mem) (ad : Nat → Nat) (cf : Nat → ClassId) (sz n : Nat) (r : Option Int32) : Array Value → State → Outcome → State → Prop := match r with
  | some x => va_Qi (fun (y : Int32) (_ : (Nat → Nat) × (Nat → ClassId) × List (ClassId × FieldType)) => y = x) (tm_Post D M M' ad cf sz n) (va_A (tm_W ad cf M) sz)
  | none => va_Qv (fun (_ : (Nat → Nat) × (Nat → ClassId) × List (ClassId × FieldType)) => True) (tm_Post D M M' ad cf sz n) (va_A (tm_W ad cf M) sz)
theorem tm_blind {E : tm_Env} {D : va_G} {M : tm_Mem} {ad : Nat → Nat} {cf : Nat → ClassId} {fm : Value} {tys : List (ClassId × FieldType)} {sz : Nat} {av : List Value} : FrameBlind (va_Pc av (tm_Pre E D M ad cf fm tys sz)) :=
  fun a U g mk q => ⟨q.1, q.2.1, tm_Rel_moved (u := U) (U := U.calling g mk a) (Vm.Alike.refl U.vm) q.2.2.1, tm_SF_same (s := U) (U := U.calling g mk a) rfl q.2.2.2⟩
/-- the statement of a run of method k from pc -/
def tm_Sound (E : tm_Env) (n : Nat) : Prop := ∀ (k pc : Nat) (ls st : List Value) (S : tm_St) (r : Option Int32) (S' : tm_St), tm_run E n k pc ls st S = some (r, S') →
  ∀ {p : Program} {l : Launch} {e : Env} {s : State} {m : MethodId} {args : Array Value} {below : List Frame} {meth : Method} {c : Code} {D : va_G} {A : Nat → Prop} {H : Heap} {locs : List Loc} {ad : Nat → Nat} {cf : Nat → ClassId} {tys : List (ClassId × FieldType)} {fm : Value} {Q : State → Prop} {lsR : Array Slot},
    tm_Ctx p k s m args meth c → tm_SF E ad fm A s s.heap → (∀ q, s.heap.size ≤ q → A q) → tm_Rel D A S.1 ad cf tys H s → va_S A s.heap H locs → lv_has lsR (tm_x k) (tm_lv ad fm ls) → ls.length = tm_x k → tm_nl k ls → S.2.1 ≤ tm_mc k → S.2.2 ≤ tm_ms k →
    (∀ (ad' : Nat → Nat) (cf' : Nat → ClassId) (tys' : List (ClassId × FieldType)) (H' : Heap) (locs' : List Loc) (lsR' : Array Slot) (pc' : Nat), tm_ext S.1 S'.1 ad cf ad' cf' → S'.1.1.length + S.2.1 ≤ S.1.1.length + S'.2.1 → S'.2.1 ≤ tm_mc k → S'.2.2 ≤ tm_ms k → tm_Rel D A S'.1 ad' cf' tys' H' s → va_S A s.heap H' locs' → tm_endOk k pc' r → W p l e (tm_room k) s m args below meth c H' locs' S'.2.1 S'.2.2 Q (F0 m pc' lsR' (tm_push r []))) →
    W p l e (tm_room k) s m args below meth c H locs S.2.1 S.2.2 Q (F0 m pc lsR (st.map (tm_tr ad fm)))
set_option maxHeartbeats 4000000 in
set_option maxRecDepth 100000 in
/-- a method's contract out of a run of it -/
theorem tm_met {E : tm_Env} {n a : Nat} (IH : tm_Sound E n) (h0 : 0 < a) (hN : a < tm_N) {as : List Value} {M : tm_Mem} {q : Option Int32 × tm_St} (hrun : tm_run E n a 0 (tm_ent a as) [] (M, 0, 0) = some q) (hl : (tm_exp as).length ≤ tm_x a) (hh : tm_hl a = true ∨ tm_n2 as = true)
    (l : Launch) (D : va_G) (ad : Nat → Nat) (cf : Nat → ClassId) (fm : Value) (tys : List (ClassId × FieldType)) (sz : Nat) :
    Met l (tm_y a) (tm_words a) (tm_room a) (va_Pc (as.map (tm_tr ad fm)) (tm_Pre E D M ad cf fm tys sz)) (tm_QQ D M q.2.1 ad cf sz (tm_mc a) q.1) (tm_mc a) (tm_ms a) (va_A (tm_W ad cf M) sz) := by
  have hks := tm_mem_ks h0 hN
  refine Met.ofW (cc := tm_b a) (maxL := tm_x a) (ret := tm_t a) (tm_pl a hks) rfl ?_
  intro p e s m args below meth c s₁ B hml hv
  obtain ⟨rfl, hsz, hR, hF⟩ := hv
  have hts := atoms_spec (ws := tm_words a) B.pre
  have hown : s.vm.findClass (tm_cn (tm_o a)) = some m.cls := by
    rw [← tm_cls a hks]; exact findClass_of_methodNamed B.named
  have C : tm_Ctx p a s m (as.map (tm_tr ad fm)).toArray meth c := ⟨B.exec, B.bytes, hml, B.returns, hown, fun w hw => hts w (List.mem_cons_of_mem _ hw), B.notSynchronized, fun hk => by rw [(name_of_methodNamed B.named B.method).1]; exact tm_ki2 a hks hk⟩
  rw [lg_entry_eq]
  refine IH a 0 (tm_ent a as) [] (M, 0, 0) q.1 q.2 hrun C hF (fun z hz => Or.inr (by rw [← hsz]; exact hz)) hR va_S.rf (tm_ent_lv hF.2.2.2.1 hl) (tm_ent_len hl) (tm_ent_nl hh) (Nat.zero_le _) (Nat.zero_le _) ?_
  intro ad' cf' tys' H' locs' lsR' pc' hext hcnt hq1 hq2 hR' hS' hend
  refine W.widen (k := tm_mc a) (n := tm_ms a) hq1 hq2 ?_
  have hlen : q.2.1.1.length ≤ M.1.length + tm_mc a := by
    have : q.2.1.1.length + 0 ≤ M.1.length + q.2.2.1 := hcnt
    omega
  obtain ⟨r, S'⟩ := q
  cases r with
  | some x =>
    obtain ⟨hd, ty, ht, hn⟩ := hend
    exact W.zret (ty := ty) B.exec B.bytes (B.returns.trans ht) hn (fun t ht hW => ⟨⟨x, (ad', cf', tys'), rfl, rfl, hext, hlen, by rw [ht]; exact tm_Rel_moved hW.alike hR'⟩, hS'.F ht⟩) hS'.2.2 hd B.notSynchronized
  | none =>
    obtain ⟨hd, ht⟩ := hend
    exact W.vret B.exec B.bytes (B.returns.trans ht) (fun t ht hW => ⟨⟨(ad', cf', tys'), rfl, trivial, hext, hlen, by rw [ht]; exact tm_Rel_moved hW.alike hR'⟩, hS'.F ht⟩) hS'.2.2 hd B.notSynchronized
