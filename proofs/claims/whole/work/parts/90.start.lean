/-! THE CLAIM OUT OF ONE WALK OF THE LAW'S BODY. Your part is whole_start (and what it stands on); all else here is the same for every law, but numbers. -/
def R_law : String := "TypedRoomsLaw"
def lw_P (b : Addr) (xs : List Int32) (args : Array Value) (s : State) : Prop := args = #[.ref b] ∧ s.IntsAt b xs ∧ xs.length ≤ 2048 ∧ (Jvm.Cond.and given_1 narrow_1).before args s = true
def lw_Q (_ : Array Value) (s : State) (o : Outcome) (t : State) : Prop := o = .returned (some (.int 1)) ∧ Framed s o t [] 600000 7302249
def lw_Z (below : List Frame) (a : Array Value) (s : State) : State → Prop := fun t => ∃ o, t.status = .running ∧ Ended t below o ∧ lw_Q a s o t
/-- the law's own end, with 1 on the stack, nothing written that was there before, its room as the claim has it -/
theorem lw_ret {p : Program} {l : Launch} {e : Env} {s : State} {m : MethodId} {below : List Frame} {meth : Method} {c : Code} {b : Nat} (hx : p.tables.exec = Jvm.exec) (hb : c.code = code) (hr : meth.sig.returnType = ret) (hlocks : meth.locks = false) {pc : Nat} {H : Heap} {ls : Array Slot} (hdg : decode code pc = .ok (.ireturn, 1)) : W p l e room_1 s m #[Value.ref b] below meth c H [] 600000 7302249 (lw_Z below #[Value.ref b] s) (F0 m pc ls [.int 1]) := by
  intro T hT X
  obtain ⟨fs, hret, hrun, hended, hW, hframe⟩ := X.leave (v := some (.int 1)) (hlocks := hlocks) (fun h => by rw [hr] at h; cases h)
  have hmeth' : T.vm.method? m = some meth := X.method'
  refine ⟨T.setFrames fs, ?_, .returned (some (.int 1)), hrun, hended, rfl, ⟨_, rfl⟩, hW, hframe⟩
  jvm_step X.here [X.here.top, hx, hb, hdg, hmeth', hr, ret, narrow_b1]
  (try refine ⟨rfl, ?_⟩); (try refine ⟨rfl, ?_⟩)
  first | (intro acts; rw [hret _ acts rfl rfl rfl]) | rw [hret _ _ rfl rfl rfl]
  exact Steps.refl _
/-- what holds at the law's entry: the machine, the code, the tables' words (any of lw_tbl by 'hts w (by decide +kernel)'), the script of L ints xs at the cell b, what the Statement gives of the start (any of its parts by flat_of_before) -/
def lw_At (p : Program) (s : State) (m : MethodId) (meth : Method) (c : Code) (b L : Nat) (xs : Nat → Int32) : Prop :=
  p.tables.exec = Jvm.exec ∧ c.code = code ∧ meth.sig.returnType = ret ∧ c.maxLocals = 4 ∧ s.vm.findClass R_law = some m.cls ∧ (∀ w ∈ lw_tbl, w.before #[Value.ref b] s = true) ∧ va_X b L xs s s.heap ∧ b < s.heap.size ∧ meth.locks = false ∧ (Jvm.Cond.and given_1 narrow_1).before #[Value.ref b] s = true

/-! the start of the small machine -/
theorem ts_w_pre : Cond.initialized "jdk/internal/util/Preconditions" ∈ lw_tbl := (tw_m1 (i := 14) rfl)
def ts_M0 : tm_Mem := ([], fun _ _ => 0, fun _ _ => 0, fun _ _ => none)
def ts_tm : Nat → Term := fun i => match i with
  | 0 => .string "TypedRooms$HouseReader" 125
  | 1 => .string "TypedRooms" 62
  | _ => .string "TypedRooms$Sentence" 46
def ts_el (i j : Nat) : Cond := .eq (.elem (.field (ts_tm i) "java/lang/String" "value" "[B") (.int (Int32.ofNat j))) (.int ((tm_byt.getD i []).getD j 0))
theorem ts_fl {args : Array Value} {s : State} (h : (Jvm.Cond.and given_1 narrow_1).before args s = true) {i : Nat} {w : Cond} (hw : (flatC narrow_1)[i]? = some w) : w.before args s = true :=
  flat_of_before _ h w (List.mem_append_right _ (List.mem_of_getElem? hw))
set_option maxRecDepth 100000 in
theorem ts_el1 : ((flatC narrow_1).drop 11).take 109 = (List.range 109).map (ts_el 1) := by rfl
set_option maxRecDepth 100000 in
theorem ts_el0 : ((flatC narrow_1).drop 124).take 4 = (List.range 4).map (ts_el 0) := by rfl
set_option maxRecDepth 100000 in
theorem ts_el2 : ((flatC narrow_1).drop 133).take 192 = (List.range 192).map (ts_el 2) := by rfl
theorem ts_elm {i a n : Nat} (h : ((flatC narrow_1).drop a).take n = (List.range n).map (ts_el i)) {j : Nat} (hj : j < n) : ts_el i j ∈ flatC narrow_1 := by
  have h1 : ts_el i j ∈ (List.range n).map (ts_el i) := List.mem_map.mpr ⟨j, List.mem_range.mpr hj, rfl⟩
  rw [← h] at h1
  exact List.mem_of_mem_drop (List.mem_of_mem_take h1)
theorem ts_3 {P : Nat → Prop} (h0 : P 0) (h1 : P 1) (h2 : P 2) : ∀ i, i < 3 → P i
  | 0, _ => h0
  | 1, _ => h1
  | 2, _ => h2
theorem ts_vkS {N : Nat} {len : List Nat} {byt : List (List Int32)} {f g f' g' : Nat → Nat} {A : Nat → Prop} {U : State} {H : Heap} (hf : ∀ i, i < N → f' i = f i) (hg : ∀ i, i < N → g' i = g i) (h : vk_S N len byt f g A U H) : vk_S N len byt f' g' A U H := by
  refine ⟨fun i hi => ?_, fun i j hi hj e => h.2 i j hi hj (by rw [← hf i hi, ← hf j hj]; exact e)⟩
  rw [hf i hi, hg i hi]
  exact h.1 i hi
def ts_ad (adK adV : Nat → Nat) (b : Nat) : Nat → Nat := fun k => if k < 1100 then adK (k - 1000) else if k < 2000 then adV (k - 1100) else b
set_option maxHeartbeats 4000000 in
set_option maxRecDepth 100000 in
theorem whole_of {p : Program} {e : Env} {s : State} {m : MethodId} {below : List Frame} {meth : Method} {c : Code} (l : Launch) {b L : Nat} {xs : Nat → Int32} (C0 : lw_At p s m meth c b L xs)
    (hrun : ∃ n S', tm_run (xs, L) n 0 0 (tm_ent 0 [.ref 2000]) [] (ts_M0, 0, 0) = some (some 1, S')) : W p l e room_1 s m #[Value.ref b] below meth c s.heap [] 0 0 (lw_Z below #[Value.ref b] s) (entryFrame m ([Value.ref b] : List Value).toArray 4) := by
  obtain ⟨hx, hb, hr, hml, hown, hts, hX, hbl, hlocks, hgv⟩ := id C0
  have hA : ∀ q : Nat, s.heap.size ≤ q → (fun q : Nat => s.heap.size ≤ q) q := fun _ h => h
  have hbA : ¬ (fun q : Nat => s.heap.size ≤ q) b := Nat.not_le.mpr hbl
  have hout : ∀ a : Nat, a < s.heap.size → ¬ (fun q : Nat => s.heap.size ≤ q) a := fun a h => Nat.not_le.mpr h
  have htw : ∀ w ∈ tm_ws, w.before #[Value.ref b] s = true := fun w h => hts w (List.mem_filter.mp h).1
  have hg : ∀ {i : Nat} {w : Cond}, (flatC narrow_1)[i]? = some w → w.before #[Value.ref b] s = true := fun h => ts_fl hgv h
  obtain ⟨adK, adV, hS, hEv⟩ := vk_Sof (A := (fun q : Nat => s.heap.size ≤ q)) (args := #[Value.ref b]) (s := s) (tm := ts_tm) (len := tm_len) (byt := tm_byt) (N := 3)
    (ts_3 (by decide) (by decide) (by decide))
    (ts_3 (hg (i := 120) rfl) (hg (i := 7) rfl) (hg (i := 129) rfl))
    (ts_3 (hg (i := 121) rfl) (hg (i := 8) rfl) (hg (i := 130) rfl))
    (ts_3 (hg (i := 122) rfl) (hg (i := 9) rfl) (hg (i := 131) rfl))
    (ts_3 (hg (i := 123) rfl) (hg (i := 10) rfl) (hg (i := 132) rfl))
    (ts_3 (fun j hj => flat_of_before _ hgv _ (List.mem_append_right _ (ts_elm ts_el0 hj))) (fun j hj => flat_of_before _ hgv _ (List.mem_append_right _ (ts_elm ts_el1 hj))) (fun j hj => flat_of_before _ hgv _ (List.mem_append_right _ (ts_elm ts_el2 hj))))
    (by
      intro i j hi hj hij
      have a10 : (Cond.not (Cond.eq (ts_tm 1) (ts_tm 0))).before #[Value.ref b] s = true := hg (i := 128) rfl
      have a12 : (Cond.not (Cond.eq (ts_tm 1) (ts_tm 2))).before #[Value.ref b] s = true := hg (i := 325) rfl
      have a02 : (Cond.not (Cond.eq (ts_tm 0) (ts_tm 2))).before #[Value.ref b] s = true := hg (i := 326) rfl
      match i, hi, j, hj with
      | 0, _, 0, _ => exact absurd rfl hij
      | 0, _, 1, _ => exact Or.inr a10
      | 0, _, 2, _ => exact Or.inl a02
      | 1, _, 0, _ => exact Or.inl a10
      | 1, _, 1, _ => exact absurd rfl hij
      | 1, _, 2, _ => exact Or.inl a12
      | 2, _, 0, _ => exact Or.inr a02
      | 2, _, 1, _ => exact Or.inr a12
      | 2, _, 2, _ => exact absurd rfl hij)
    hout
  have hcs : va_Z "java/lang/String" "COMPACT_STRINGS" "Z" (.int 1) (fun q : Nat => s.heap.size ≤ q) s s.heap := va_Zof (hts _ tm_w_cs2) (hts _ (tm_ini_in 13 (by decide))) (va_eqt (hg (i := 2) rfl)) hout
  obtain ⟨fm, hfm, hfc⟩ : ∃ fm : Value, va_Z "jdk/internal/util/Preconditions" "SIOOBE_FORMATTER" "Ljava/util/function/BiFunction;" fm (fun q : Nat => s.heap.size ≤ q) s s.heap ∧ fm.category = 1 := by
    rcases va_Zqof (hts _ tm_w_sf2) (hts _ ts_w_pre) (hg (i := 3) rfl) hout with h | ⟨t, h⟩
    · exact ⟨_, h, rfl⟩
    · exact ⟨_, h, rfl⟩
  have hkn : ∀ ci : Nat, ∃ q : ClassId × (Nat → Nat), ci < 12 → u_Kn s (tm_cn ci) (tm_T ci) (tm_nf ci) q.1 q.2 := by
    intro ci
    by_cases h : ci < 12
    · obtain ⟨cC, iS, hk⟩ := u_known (n := tm_nf ci) htw (tm_layf h) (hts _ (tm_ic_in _ (tm_cs_mem h)))
      exact ⟨(cC, iS), fun _ => hk⟩
    · exact ⟨(0, fun _ => 0), fun q => absurd q h⟩
  obtain ⟨dd, hdd⟩ := Classical.axiomOfChoice hkn
  have hK : va_K (fun ci => (dd ci).1, fun ci => (dd ci).2) tm_cl [] s := by
    refine ⟨fun ci q hq => ?_, fun k q h => by simp at h⟩
    have h12 : ci < 12 := (List.getElem?_eq_some_iff.mp hq).1
    rw [tm_clf h12] at hq
    cases hq
    exact hdd ci h12
  have hSF : tm_SF (xs, L) (ts_ad adK adV b) fm (fun q : Nat => s.heap.size ≤ q) s s.heap := by
    refine ⟨ts_vkS ?_ ?_ hS, hcs, hfm, hfc, ?_, ?_, ?_, hX, hbl, hbA, va_AO.of (hts _ tm_w_ao), ?_⟩
    · intro i hi
      show ts_ad adK adV b (1000 + i) = adK i
      unfold ts_ad
      rw [if_pos (by omega), Nat.add_sub_cancel_left]
    · intro i hi
      show ts_ad adK adV b (1100 + i) = adV i
      unfold ts_ad
      rw [if_neg (by omega), if_pos (by omega), Nat.add_sub_cancel_left]
    · exact vk_R.of (hts _ tm_w_s0) (hEv 0 (by decide))
    · exact vk_R.of (hts _ tm_w_s1) (hEv 1 (by decide))
    · exact vk_R.of (hts _ tm_w_s2) (hEv 2 (by decide))
    · intro e he h1
      have h2 := hts _ (tm_M_in e he)
      unfold tm_mw at h2
      rw [h1] at h2
      exact va_Nw.of rfl h2
  have hRel : tm_Rel (fun ci => (dd ci).1, fun ci => (dd ci).2) (fun q : Nat => s.heap.size ≤ q) ts_M0 (ts_ad adK adV b) (fun _ => 0) [] s.heap s :=
    ⟨hK, (fun k q h => by cases k <;> cases h), ⟨(fun i j p q h => by cases i <;> cases h), (fun k q h => by cases k <;> cases h)⟩, (fun k sh h => by cases k <;> cases h), (fun k j a h => by cases h), by decide⟩
  obtain ⟨n, S', hrun⟩ := hrun
  have hlv := tm_ent_lv (ad := ts_ad adK adV b) (fm := fm) hfc (a := 0) (as := [.ref 2000]) (by decide)
  rw [lg_entry_eq]
  have C : tm_Ctx p 0 s m #[Value.ref b] meth c := ⟨hx, hb, hml, hr, hown, htw, hlocks, fun h => by cases h⟩
  refine tm_sound (xs, L) n 0 0 (tm_ent 0 [.ref 2000]) [] (ts_M0, 0, 0) (some 1) S' hrun C hSF hA hRel va_S.rf hlv (tm_ent_len (by decide)) (tm_ent_nl (Or.inr (by decide))) (Nat.zero_le _) (Nat.zero_le _) ?_
  intro ad' cf' tys' H' locs' lsR' pc' hext hcnt hq1 hq2 hR' hS' hend
  refine va_forget (fun q hq => hS'.2.2 q hq) ?_
  refine W.widen (k := 600000) (n := 7302249) hq1 hq2 ?_
  exact lw_ret hx hb hr hlocks hend.1
