/-! ===== the words: class and model ===== -/
def pkN (f : Nat → Nat) : Nat → Nat
  | 0 => 0
  | m + 1 => 256 * pkN f m + f m
theorem pkN_lt {f : Nat → Nat} : ∀ {m : Nat}, (∀ i, i < m → f i < 256) → pkN f m < 256 ^ m
  | 0, _ => by show 0 < 1; omega
  | m + 1, h => by
    have h1 := pkN_lt (f := f) (m := m) (fun i hi => h i (by omega))
    have h2 := h m (by omega)
    rw [pkN, Nat.pow_succ]
    omega
theorem pkN_inj {f g : Nat → Nat} : ∀ {m m' : Nat}, (∀ i, i < m → 0 < f i ∧ f i < 256) → (∀ i, i < m' → 0 < g i ∧ g i < 256) → pkN f m = pkN g m' → m = m' ∧ ∀ i, i < m → f i = g i
  | 0, 0, _, _, _ => ⟨rfl, fun i hi => absurd hi (Nat.not_lt_zero i)⟩
  | 0, m' + 1, _, h2, e => by
    have := h2 m' (by omega)
    rw [pkN, pkN] at e
    omega
  | m + 1, 0, h1, _, e => by
    have := h1 m (by omega)
    rw [pkN, pkN] at e
    omega
  | m + 1, m' + 1, h1, h2, e => by
    have a1 := h1 m (by omega)
    have a2 := h2 m' (by omega)
    rw [pkN, pkN] at e
    obtain ⟨b1, b2⟩ := pkN_inj (f := f) (g := g) (m := m) (m' := m') (fun i hi => h1 i (by omega)) (fun i hi => h2 i (by omega)) (by omega)
    refine ⟨by omega, fun i hi => ?_⟩
    by_cases c : i = m
    · subst c
      subst b1
      omega
    · exact b2 i (by omega)
def pkL (w : List Nat) : Nat := pkN (fun i => w.getD i 0) w.length
/-- the packed words of the model -/
def JW (J : Nat → Nat → Int64) : Prop := ∀ k, k < 43 → J 67 k = Int64.ofNat (pkL (WL.getD k []))
theorem pkv_eq {tc : Nat → Nat} {k : Nat} : ∀ {m : Nat}, m ≤ 6 → (∀ i, i < m → tc (k + i) < 256) → pkv tc k m = Int64.ofNat (pkN (fun i => tc (k + i)) m)
  | 0, _, _ => rfl
  | m + 1, hm, h => by
    have h1 := pkv_eq (tc := tc) (k := k) (m := m) (by omega) (fun i hi => h i (by omega))
    have h2 := pkN_lt (f := fun i => tc (k + i)) (m := m) (fun i hi => h i (by omega))
    have h3 := h m (by omega)
    have hp : 256 ^ m ≤ 256 ^ 5 := Nat.pow_le_pow_right (by decide) (by omega)
    have h4 : pkN (fun i => tc (k + i)) m < 1099511627776 := by
      have : 256 ^ 5 = 1099511627776 := by decide
      omega
    have hd : Int64.ofNat (pkN (fun i => tc (k + i)) m) / 72057594037927936 = 0 := by
      rw [show (72057594037927936 : Int64) = Int64.ofNat 72057594037927936 from rfl, ← Int64.ofNat_div (by omega) (by decide), Nat.div_eq_of_lt (by omega)]
      rfl
    have hc : (nI (tc (k + m))).toInt64 = Int64.ofNat (tc (k + m)) := Int32.toInt64_ofNat' (by rw [Int32.toInt_maxValue]; omega)
    rw [pkv, h1, hd, Int64.zero_mul, Int64.sub_zero, hc, pkN, show (256 : Int64) = Int64.ofNat 256 from rfl, ← Int64.ofNat_mul, ← Int64.ofNat_add]
theorem fsW_cong {m m' : List Nat → Bool} : ∀ {ws : List (List Nat)} {j : Nat}, (∀ w, w ∈ ws → m w = m' w) → fsW m ws j = fsW m' ws j
  | [], _, _ => rfl
  | w :: ws, j, h => by
    rw [fsW, fsW, h w List.mem_cons_self, fsW_cong (fun w' h' => h w' (List.mem_cons_of_mem _ h'))]
theorem fsW_none {m : List Nat → Bool} : ∀ {ws : List (List Nat)} {j : Nat}, (∀ w, w ∈ ws → m w = false) → fsW m ws j = -4
  | [], _, _ => rfl
  | w :: ws, j, h => by
    rw [fsW, h w List.mem_cons_self, if_neg (by decide), fsW_none (fun w' h' => h w' (List.mem_cons_of_mem _ h'))]
theorem wrd_fs {J : Nat → Nat → Int64} (hJ : JW J) (v : Int64) : ∀ f k, k + f = 43 → wrd J v f k = fsW (fun w => decide (Int64.ofNat (pkL w) = v)) (WL.drop k) k
  | 0, k, h => by
    obtain rfl : k = 43 := by omega
    rfl
  | f + 1, k, h => by
    have hlen : WL.length = 43 := by decide
    have hd := List.drop_eq_getElem_cons (l := WL) (i := k) (by omega)
    have e1 : WL.getD k [] = WL[k]'(by omega) := by
      rw [List.getD_eq_getElem?_getD, List.getElem?_eq_getElem (by omega)]
      rfl
    rw [wrd, hd, fsW, hJ k (by omega), e1, wrd_fs hJ v f (k + 1) (by omega)]
    by_cases c : Int64.ofNat (pkL (WL[k]'(by omega))) = v
    · rw [if_pos c, if_pos (decide_eq_true c)]
    · rw [if_neg c, if_neg (by rw [decide_eq_false c]; decide)]
theorem WL_small : ∀ w, w ∈ WL → w.length ≤ 6 ∧ ∀ i, i < w.length → 97 ≤ w.getD i 0 ∧ w.getD i 0 ≤ 122 := by decide
theorem wmt_iff {tc : Nat → Nat} {k e : Nat} {w : List Nat} : wmt tc k e w = true ↔ k + w.length = e ∧ ∀ i, i < w.length → tc (k + i) = w.getD i 0 := by
  unfold wmt
  simp only [Bool.and_eq_true, decide_eq_true_eq, List.all_eq_true, List.mem_range]
theorem sln_small {n : Nat} {tc : Nat → Nat} : ∀ f k i, i < sln n tc f k → k + i < n ∧ sml (tc (k + i)) = true
  | 0, k, i, h => by
    rw [sln] at h
    omega
  | f + 1, k, i, h => by
    rw [sln] at h
    by_cases c : (decide (k < n) && sml (tc k)) = true
    · rw [if_pos c] at h
      simp only [Bool.and_eq_true, decide_eq_true_eq] at c
      cases i with
      | zero => exact c
      | succ i =>
        have := sln_small (n := n) (tc := tc) f (k + 1) i (by omega)
        rw [show k + (i + 1) = k + 1 + i by omega]
        exact this
    · rw [if_neg c] at h
      omega
theorem sln_max {n : Nat} {tc : Nat → Nat} : ∀ f k, n < k + f → k + sln n tc f k < n → sml (tc (k + sln n tc f k)) = false
  | 0, k, h, h2 => by
    rw [sln] at h2
    omega
  | f + 1, k, h, h2 => by
    rw [sln] at h2 ⊢
    by_cases c : (decide (k < n) && sml (tc k)) = true
    · rw [if_pos c] at h2 ⊢
      have := sln_max (n := n) (tc := tc) f (k + 1) (by omega) (by omega)
      rw [show k + (sln n tc f (k + 1) + 1) = k + 1 + sln n tc f (k + 1) by omega]
      exact this
    · rw [if_neg c] at h2 ⊢
      rw [decide_eq_true (show k < n by omega), Bool.true_and] at c
      simpa using c
theorem wnm_fs {J : Nat → Nat → Int64} {n k : Nat} {tc : Nat → Nat} (hJ : JW J) : wnm J n tc k = fsW (wmt tc k (wend n tc k)) WL 0 := by
  unfold wnm wend
  have hs : ∀ i, i < sln n tc (n + 1) k → 97 ≤ tc (k + i) ∧ tc (k + i) ≤ 122 := fun i hi => of_decide_eq_true (sln_small (n + 1) k i hi).2
  by_cases c : 6 < sln n tc (n + 1) k
  · rw [if_pos c, fsW_none]
    intro w hw
    cases q : wmt tc k (k + sln n tc (n + 1) k) w with
    | false => rfl
    | true =>
      have h1 := (wmt_iff.mp q).1
      have h2 := (WL_small w hw).1
      omega
  · rw [if_neg c, wrd_fs hJ _ 43 0 (by decide)]
    refine fsW_cong (fun w hw => ?_)
    obtain ⟨w1, w2⟩ := WL_small w hw
    rw [pkv_eq (by omega) (fun i hi => by have := hs i hi; omega), Bool.eq_iff_iff, decide_eq_true_eq, wmt_iff]
    have l6 : ∀ m, m ≤ 6 → 256 ^ m ≤ 281474976710656 := fun m hm => by
      have : 256 ^ m ≤ 256 ^ 6 := Nat.pow_le_pow_right (by decide) hm
      have e : 256 ^ 6 = 281474976710656 := by decide
      omega
    have b1 := pkN_lt (f := fun i => w.getD i 0) (m := w.length) (fun i hi => by have := w2 i hi; omega)
    have b2 := pkN_lt (f := fun i => tc (k + i)) (m := sln n tc (n + 1) k) (fun i hi => by have := hs i hi; omega)
    have b3 := l6 w.length w1
    have b4 := l6 (sln n tc (n + 1) k) (by omega)
    constructor
    · intro e
      have e2 := congrArg Int64.toInt e
      rw [Int64.toInt_ofNat_of_lt (by unfold pkL; omega), Int64.toInt_ofNat_of_lt (by omega)] at e2
      have e3 : pkN (fun i => w.getD i 0) w.length = pkN (fun i => tc (k + i)) (sln n tc (n + 1) k) := by
        unfold pkL at e2
        omega
      obtain ⟨g1, g2⟩ := pkN_inj (fun i hi => by have := w2 i hi; omega) (fun i hi => by have := hs i hi; omega) e3
      exact ⟨by omega, fun i hi => (g2 i hi).symm⟩
    · rintro ⟨g1, g2⟩
      congr 1
      unfold pkL
      have e : w.length = sln n tc (n + 1) k := by omega
      rw [e]
      rw [e] at g2
      clear b1 b2 b3 b4 g1 e w1 w2
      generalize sln n tc (n + 1) k = m at g2
      induction m with
      | zero => rfl
      | succ m ih =>
        rw [pkN, pkN, ih (fun i hi => g2 i (by omega)), g2 m (by omega)]
theorem bl_ex (n : Nat) (tc : Nat → Nat) : ∀ f k, k + f = n → ∃ e, k ≤ e ∧ e ≤ n ∧ (∀ i, k ≤ i → i < e → tc i ≠ 32) ∧ (e = n ∨ tc e = 32)
  | 0, k, h => ⟨k, Nat.le_refl _, by omega, fun i h1 h2 => by omega, Or.inl (by omega)⟩
  | f + 1, k, h => by
    by_cases c : tc k = 32
    · exact ⟨k, Nat.le_refl _, by omega, fun i h1 h2 => by omega, Or.inr c⟩
    · obtain ⟨e, e1, e2, e3, e4⟩ := bl_ex n tc f (k + 1) (by omega)
      refine ⟨e, by omega, e2, fun i h1 h2 => ?_, e4⟩
      by_cases q : i = k
      · rw [q]; exact c
      · exact e3 i (by omega) h2
theorem word_eq {J : Nat → Nat → Int64} {n k e : Nat} {tc : Nat → Nat} (hJ : JW J) (hk : k ≤ n) (h1 : k ≤ e) (h2 : e ≤ n) (h3 : ∀ i, k ≤ i → i < e → tc i ≠ 32) (h4 : e = n ∨ tc e = 32) : (okw J n tc k = true → wend n tc k = e) ∧ fsW (wmt tc k e) WL 0 = if okw J n tc k = true then wnm J n tc k else -4 := by
  have hsl := sln_le n tc (n + 1) k hk
  have hs : ∀ i, i < sln n tc (n + 1) k → 97 ≤ tc (k + i) ∧ tc (k + i) ≤ 122 := fun i hi => of_decide_eq_true (sln_small (n + 1) k i hi).2
  by_cases c : wend n tc k = e
  · refine ⟨fun _ => c, ?_⟩
    rw [wnm_fs hJ, c]
    unfold okw
    rw [wnm_fs hJ, c]
    by_cases q : fsW (wmt tc k e) WL 0 = -4
    · rw [decide_eq_true q, Bool.not_true, Bool.false_and, if_neg (by decide), q]
    · have : (decide (e = n) || decide (tc e = 32)) = true := by
        rcases h4 with q4 | q4
        · rw [decide_eq_true q4]; rfl
        · rw [decide_eq_true q4, Bool.or_true]
      rw [decide_eq_false q, this, if_pos (by decide)]
  · have hlt : wend n tc k < e := by
      rcases Nat.lt_or_ge (wend n tc k) e with q | q
      · exact q
      · exfalso
        unfold wend at c q
        have h5 := hs (e - k) (by omega)
        rw [show k + (e - k) = e by omega] at h5
        rcases h4 with q4 | q4
        · omega
        · omega
    have hw : k ≤ wend n tc k := Nat.le_add_right _ _
    have hno : okw J n tc k = false := by
      unfold okw
      rw [decide_eq_false (show ¬ wend n tc k = n by omega), decide_eq_false (h3 _ hw hlt), Bool.or_false, Bool.and_false]
    refine ⟨fun q => (by rw [hno] at q; cases q), ?_⟩
    rw [hno, if_neg (by decide), fsW_none]
    intro w hwL
    cases q : wmt tc k e w with
    | false => rfl
    | true =>
      exfalso
      obtain ⟨g1, g2⟩ := wmt_iff.mp q
      have hm := sln_max (tc := tc) (n := n) (n + 1) k (by omega) (show k + sln n tc (n + 1) k < n by unfold wend at hlt; omega)
      unfold wend at hlt
      have g3 := g2 (sln n tc (n + 1) k) (by omega)
      have g4 := (WL_small w hwL).2 (sln n tc (n + 1) k) (by omega)
      rw [g3] at hm
      have hm2 := of_decide_eq_false hm
      omega
section G2
variable {E : tm_Env} {Q : Option Int32 → tm_St → Prop} {I : Nat → Nat → Int32} {J : Nat → Nat → Int64} {R : Nat → Nat → Option Nat} {h d : Nat} {n : Nat} {tc : Nat → Nat}
def rdS (I : Nat → Nat → Int32) (c : Nat) (F : Nat → Int32) : Nat → Nat → Int32 := va_up (va_up I 51 (upd (I 51) 2 (nI c))) 52 F
theorem rdS_1 {c : Nat} {F : Nat → Int32} : rdS I c F 1 = I 1 := Eq.trans rfl rfl
theorem rdS_2 {c : Nat} {F : Nat → Int32} : rdS I c F 2 = I 2 := Eq.trans rfl rfl
theorem rdS_52 {c : Nat} {F : Nat → Int32} : rdS I c F 52 = F := Eq.trans rfl rfl
theorem rdS_c {c : Nat} {F : Nat → Int32} : rdS I c F 51 2 = nI c := Eq.trans rfl rfl
theorem rdS_up {c e : Nat} {F G : Nat → Int32} : va_up (va_up (rdS I c F) 52 G) 51 (upd (rdS I c F 51) 2 (nI e)) = rdS I e G := by
  unfold rdS
  rw [vu_vu, vu_comm _ (k := 52) (j := 51) (by decide), vu_vu]
  congr 2
  rw [vu, if_neg (by decide), vu, if_pos rfl, upd_upd]
theorem c_rw_skip (hR : tRef h d R) (hT : TXc I n tc) {e : Nat} (he : e ≤ n) {l1 l3 : Value} {c : Nat} {F : Nat → Int32} : ∀ j i, i + j = e → (∀ x, i ≤ x → x < e → tc x ≠ 32) → tEv E 71 9 [.ref 51, l1, .int (nI i), l3] [] (mS (rdS I c F) J R) Q = tEv E 71 9 [.ref 51, l1, .int (nI e), l3] [] (mS (rdS I c F) J R) Q
  | 0, i, hj, hb => by
    obtain rfl : i = e := by omega
    rfl
  | j + 1, i, hj, hb => by
    have hn := hT.2.1
    have hix := inb_nI (j := i) (n := 240) (by omega) (by decide)
    have hcl := nI_cl (n := i) (by omega)
    have htc := hT.2.2 i (by omega)
    have g1 : (nI n < nI i) = False := eq_false (fun q => by have := (nI_ltI (by omega) (by omega)).mp q; omega)
    have g2 : ((240 : Int32) < nI i) = False := eq_false (fun q => by have := (nI_ltI (a := 240) (by omega) (by omega)).mp q; omega)
    have g3 : (nI i < nI n) = True := eq_true (nI_lt (by omega) (by omega))
    have g4 : (nI i < (240 : Int32)) = True := eq_true (nI_lt (b := 240) (by omega) (by omega))
    have g5 : (nI (tc i) = 32) = False := eq_false (fun q => hb i (Nat.le_refl _) (by omega) ((nI_eq (b := 32) (by omega) (by omega)).mp q))
    have ih := c_rw_skip hR hT he (l1 := l1) (l3 := l3) (c := c) (F := F) j (i + 1) (by omega) (fun x h1 h2 => hb x (by omega) h2)
    rw [e_71_9]
    simp only [e_71_10, e_71_11, e_71_14, e_71_17, e_71_20, e_71_21, e_71_24, e_71_27, e_71_28, e_71_29, e_71_32, e_71_35, e_71_38, e_71_39, e_71_42, e_71_45, e_71_46, e_71_49, e_71_52, e_71_53, e_71_54, e_71_56, e_71_59, e_71_113, e_71_116, rf_0_0 hR, rf_0_1 hR, rf_0_2 hR, rf_0_3 hR, rf_0_4 hR, rf_0_5 hR, rf_0_6 hR, rf_1_0 hR, rf_3_0 hR, rf_3_2 hR, rf_4_3 hR, rf_4_4 hR, rf_4_5 hR, rf_4_6 hR, rf_4_7 hR, rf_4_8 hR, rf_4_9 hR, rf_12_1 hR, rf_13_3 hR, rf_13_4 hR, rf_13_5 hR, rf_13_6 hR, rf_13_7 hR, rf_13_8 hR, rf_13_9 hR, rf_21_0 hR, rf_21_1 hR, rf_24_0 hR, rf_25_0 hR, rf_26_0 hR, rf_26_1 hR, rf_26_2 hR, rf_26_3 hR, rf_26_4 hR, rf_26_5 hR, rf_26_6 hR, rf_26_7 hR, rf_27_0 hR, rf_27_1 hR, rf_30_0 hR, rf_30_1 hR, rf_33_0 hR, rf_33_1 hR, rf_36_0 hR, rf_36_1 hR, rf_39_0 hR, rf_39_1 hR, rf_42_0 hR, rf_42_1 hR, rf_45_0 hR, rf_45_1 hR, rf_48_0 hR, rf_48_1 hR, rf_51_0 hR, rf_51_1 hR, rf_51_6 hR, rf_51_7 hR, rf_h_3 hR, rf_d_3 hR, rf_h_4 hR, rf_d_4 hR, rf_h_5 hR, rf_d_5 hR, rf_h_6 hR, rf_d_6 hR, rf_h_7 hR, rf_d_7 hR, rf_h_8 hR, rf_d_8 hR, rf_h_9 hR, rf_d_9 hR, rf_12_0 hR, rf_3_1 hR, kn_0, kn_1, kn_2, kn_3, kn_4, kn_5, kn_6, kn_7, kn_8, kn_9, kn_10, kn_11, kn_12, kn_13, kn_14, kn_15, kn_16, kn_17, kn_18, kn_19, kn_20, kn_21, kn_22, kn_23, kn_24, kn_25, kn_26, kn_27, kn_28, kn_29, kn_30, kn_31, kn_32, kn_33, kn_34, kn_35, kn_36, kn_37, kn_38, kn_39, kn_40, kn_41, kn_42, kn_43, kn_44, kn_45, kn_46, kn_47, kn_48, kn_49, kn_50, kn_51, kn_52, kn_53, kn_54, kn_55, ln_2, ln_5, ln_6, ln_7, ln_8, ln_9, ln_10, ln_11, ln_14, ln_15, ln_16, ln_17, ln_18, ln_19, ln_20, ln_22, ln_23, ln_26, ln_28, ln_29, ln_31, ln_32, ln_34, ln_35, ln_37, ln_38, ln_40, ln_41, ln_43, ln_44, ln_46, ln_47, ln_49, ln_50, ln_52, kn_h hR, lt_h hR, kn_h1 hR, ln_h1 hR, lt_h1 hR, kn_h2 hR, ln_h2 hR, lt_h2 hR, kn_h3 hR, ln_h3 hR, lt_h3 hR, kn_h4 hR, ln_h4 hR, lt_h4 hR, kn_h5 hR, ln_h5 hR, lt_h5 hR, kn_h6 hR, ln_h6 hR, lt_h6 hR, kn_h7 hR, ln_h7 hR, lt_h7 hR, kn_d hR, lt_d hR, kn_d1 hR, ln_d1 hR, lt_d1 hR, kn_d2 hR, ln_d2 hR, lt_d2 hR, kn_d3 hR, ln_d3 hR, lt_d3 hR, kn_d4 hR, ln_d4 hR, lt_d4 hR, kn_d5 hR, ln_d5 hR, lt_d5 hR, kn_d6 hR, ln_d6 hR, lt_d6 hR, kn_d7 hR, ln_d7 hR, lt_d7 hR, va_rf_some, push_s, push_n, nb0, nb1, nbb, Nat.reduceLT, rdS_1, rdS_2, hT.1, g1, g2, g3, g4, if_true, if_false, hix, hcl, htc.1, g5, nI_1]
    exact ih
theorem c_readWords_loop (hR : tRef h d R) (hT : TXc I n tc) (hJ : JW J) (hJ0 : wrd J 0 43 0 = -4) : ∀ fu k c f F l3, n + 1 < k + fu → k ≤ n + 1 → 2 * c ≤ k → (∀ i, i < c → F i = f i) → ∃ C F', ((rwd J n tc fu k c f).1 = true → C = (rwd J n tc fu k c f).2.1 ∧ C ≤ 120 ∧ ∀ i, i < C → F' i = (rwd J n tc fu k c f).2.2 i) ∧ ∀ Q, tEv E 71 9 [.ref 51, .int (nI k), .int (nI k), l3] [] (mS (rdS I c F) J R) Q = Q (some (b2i (rwd J n tc fu k c f).1)) (mS (rdS I C F') J R)
  | 0, k, c, f, F, l3, h1, h2, h3, h4 => by omega
  | fu + 1, k, c, f, F, l3, h1, h2, h3, h4 => by
    have hn := hT.2.1
    by_cases ck : k ≤ n
    · obtain ⟨e, e1, e2, e3, e4⟩ := bl_ex n tc (n - k) k (by omega)
      obtain ⟨w1, w2⟩ := word_eq hJ ck e1 e2 e3 e4
      have hwa := fun {Q} c F => c_wordAt (E := E) (Q := Q) (I := rdS I c F) (J := J) hR hT ck e2
      have g1 : (nI n < nI e) = False := eq_false (fun q => by have := (nI_ltI (by omega) (by omega)).mp q; omega)
      have g2 : ((240 : Int32) < nI e) = False := eq_false (fun q => by have := (nI_ltI (a := 240) (by omega) (by omega)).mp q; omega)
      have st : ∀ Q, tEv E 71 9 [.ref 51, .int (nI k), .int (nI k), l3] [] (mS (rdS I c F) J R) Q = tEv E 71 62 [.ref 51, .int (nI k), .int (nI e), l3] [] (mS (rdS I c F) J R) Q := fun Q => by
        rw [c_rw_skip hR hT e2 (e - k) k (by omega) e3, e_71_9]
        by_cases q : e = n
        · have g3 : (nI e < nI n) = False := by rw [q]; exact eq_false Int32.lt_irrefl
          simp only [e_71_10, e_71_11, e_71_14, e_71_17, e_71_20, e_71_21, e_71_24, e_71_27, e_71_28, e_71_29, e_71_32, e_71_35, e_71_38, e_71_39, e_71_42, e_71_45, e_71_46, e_71_49, e_71_52, e_71_53, e_71_54, e_71_56, e_71_59, rf_0_0 hR, rf_0_1 hR, rf_0_2 hR, rf_0_3 hR, rf_0_4 hR, rf_0_5 hR, rf_0_6 hR, rf_1_0 hR, rf_3_0 hR, rf_3_2 hR, rf_4_3 hR, rf_4_4 hR, rf_4_5 hR, rf_4_6 hR, rf_4_7 hR, rf_4_8 hR, rf_4_9 hR, rf_12_1 hR, rf_13_3 hR, rf_13_4 hR, rf_13_5 hR, rf_13_6 hR, rf_13_7 hR, rf_13_8 hR, rf_13_9 hR, rf_21_0 hR, rf_21_1 hR, rf_24_0 hR, rf_25_0 hR, rf_26_0 hR, rf_26_1 hR, rf_26_2 hR, rf_26_3 hR, rf_26_4 hR, rf_26_5 hR, rf_26_6 hR, rf_26_7 hR, rf_27_0 hR, rf_27_1 hR, rf_30_0 hR, rf_30_1 hR, rf_33_0 hR, rf_33_1 hR, rf_36_0 hR, rf_36_1 hR, rf_39_0 hR, rf_39_1 hR, rf_42_0 hR, rf_42_1 hR, rf_45_0 hR, rf_45_1 hR, rf_48_0 hR, rf_48_1 hR, rf_51_0 hR, rf_51_1 hR, rf_51_6 hR, rf_51_7 hR, rf_h_3 hR, rf_d_3 hR, rf_h_4 hR, rf_d_4 hR, rf_h_5 hR, rf_d_5 hR, rf_h_6 hR, rf_d_6 hR, rf_h_7 hR, rf_d_7 hR, rf_h_8 hR, rf_d_8 hR, rf_h_9 hR, rf_d_9 hR, rf_12_0 hR, rf_3_1 hR, kn_0, kn_1, kn_2, kn_3, kn_4, kn_5, kn_6, kn_7, kn_8, kn_9, kn_10, kn_11, kn_12, kn_13, kn_14, kn_15, kn_16, kn_17, kn_18, kn_19, kn_20, kn_21, kn_22, kn_23, kn_24, kn_25, kn_26, kn_27, kn_28, kn_29, kn_30, kn_31, kn_32, kn_33, kn_34, kn_35, kn_36, kn_37, kn_38, kn_39, kn_40, kn_41, kn_42, kn_43, kn_44, kn_45, kn_46, kn_47, kn_48, kn_49, kn_50, kn_51, kn_52, kn_53, kn_54, kn_55, ln_2, ln_5, ln_6, ln_7, ln_8, ln_9, ln_10, ln_11, ln_14, ln_15, ln_16, ln_17, ln_18, ln_19, ln_20, ln_22, ln_23, ln_26, ln_28, ln_29, ln_31, ln_32, ln_34, ln_35, ln_37, ln_38, ln_40, ln_41, ln_43, ln_44, ln_46, ln_47, ln_49, ln_50, ln_52, kn_h hR, lt_h hR, kn_h1 hR, ln_h1 hR, lt_h1 hR, kn_h2 hR, ln_h2 hR, lt_h2 hR, kn_h3 hR, ln_h3 hR, lt_h3 hR, kn_h4 hR, ln_h4 hR, lt_h4 hR, kn_h5 hR, ln_h5 hR, lt_h5 hR, kn_h6 hR, ln_h6 hR, lt_h6 hR, kn_h7 hR, ln_h7 hR, lt_h7 hR, kn_d hR, lt_d hR, kn_d1 hR, ln_d1 hR, lt_d1 hR, kn_d2 hR, ln_d2 hR, lt_d2 hR, kn_d3 hR, ln_d3 hR, lt_d3 hR, kn_d4 hR, ln_d4 hR, lt_d4 hR, kn_d5 hR, ln_d5 hR, lt_d5 hR, kn_d6 hR, ln_d6 hR, lt_d6 hR, kn_d7 hR, ln_d7 hR, lt_d7 hR, va_rf_some, push_s, push_n, nb0, nb1, nbb, Nat.reduceLT, rdS_1, hT.1, g1, g2, g3, if_false]
        · have hix := inb_nI (j := e) (n := 240) (by omega) (by decide)
          have hcl := nI_cl (n := e) (by omega)
          have htc := hT.2.2 e (by omega)
          have g3 : (nI e < nI n) = True := eq_true (nI_lt (by omega) (by omega))
          have g4 : (nI e < (240 : Int32)) = True := eq_true (nI_lt (b := 240) (by omega) (by omega))
          have g5 : (nI (tc e) = 32) = True := eq_true (by rw [e4.resolve_left q]; rfl)
          simp only [e_71_10, e_71_11, e_71_14, e_71_17, e_71_20, e_71_21, e_71_24, e_71_27, e_71_28, e_71_29, e_71_32, e_71_35, e_71_38, e_71_39, e_71_42, e_71_45, e_71_46, e_71_49, e_71_52, e_71_53, e_71_54, e_71_56, e_71_59, rf_0_0 hR, rf_0_1 hR, rf_0_2 hR, rf_0_3 hR, rf_0_4 hR, rf_0_5 hR, rf_0_6 hR, rf_1_0 hR, rf_3_0 hR, rf_3_2 hR, rf_4_3 hR, rf_4_4 hR, rf_4_5 hR, rf_4_6 hR, rf_4_7 hR, rf_4_8 hR, rf_4_9 hR, rf_12_1 hR, rf_13_3 hR, rf_13_4 hR, rf_13_5 hR, rf_13_6 hR, rf_13_7 hR, rf_13_8 hR, rf_13_9 hR, rf_21_0 hR, rf_21_1 hR, rf_24_0 hR, rf_25_0 hR, rf_26_0 hR, rf_26_1 hR, rf_26_2 hR, rf_26_3 hR, rf_26_4 hR, rf_26_5 hR, rf_26_6 hR, rf_26_7 hR, rf_27_0 hR, rf_27_1 hR, rf_30_0 hR, rf_30_1 hR, rf_33_0 hR, rf_33_1 hR, rf_36_0 hR, rf_36_1 hR, rf_39_0 hR, rf_39_1 hR, rf_42_0 hR, rf_42_1 hR, rf_45_0 hR, rf_45_1 hR, rf_48_0 hR, rf_48_1 hR, rf_51_0 hR, rf_51_1 hR, rf_51_6 hR, rf_51_7 hR, rf_h_3 hR, rf_d_3 hR, rf_h_4 hR, rf_d_4 hR, rf_h_5 hR, rf_d_5 hR, rf_h_6 hR, rf_d_6 hR, rf_h_7 hR, rf_d_7 hR, rf_h_8 hR, rf_d_8 hR, rf_h_9 hR, rf_d_9 hR, rf_12_0 hR, rf_3_1 hR, kn_0, kn_1, kn_2, kn_3, kn_4, kn_5, kn_6, kn_7, kn_8, kn_9, kn_10, kn_11, kn_12, kn_13, kn_14, kn_15, kn_16, kn_17, kn_18, kn_19, kn_20, kn_21, kn_22, kn_23, kn_24, kn_25, kn_26, kn_27, kn_28, kn_29, kn_30, kn_31, kn_32, kn_33, kn_34, kn_35, kn_36, kn_37, kn_38, kn_39, kn_40, kn_41, kn_42, kn_43, kn_44, kn_45, kn_46, kn_47, kn_48, kn_49, kn_50, kn_51, kn_52, kn_53, kn_54, kn_55, ln_2, ln_5, ln_6, ln_7, ln_8, ln_9, ln_10, ln_11, ln_14, ln_15, ln_16, ln_17, ln_18, ln_19, ln_20, ln_22, ln_23, ln_26, ln_28, ln_29, ln_31, ln_32, ln_34, ln_35, ln_37, ln_38, ln_40, ln_41, ln_43, ln_44, ln_46, ln_47, ln_49, ln_50, ln_52, kn_h hR, lt_h hR, kn_h1 hR, ln_h1 hR, lt_h1 hR, kn_h2 hR, ln_h2 hR, lt_h2 hR, kn_h3 hR, ln_h3 hR, lt_h3 hR, kn_h4 hR, ln_h4 hR, lt_h4 hR, kn_h5 hR, ln_h5 hR, lt_h5 hR, kn_h6 hR, ln_h6 hR, lt_h6 hR, kn_h7 hR, ln_h7 hR, lt_h7 hR, kn_d hR, lt_d hR, kn_d1 hR, ln_d1 hR, lt_d1 hR, kn_d2 hR, ln_d2 hR, lt_d2 hR, kn_d3 hR, ln_d3 hR, lt_d3 hR, kn_d4 hR, ln_d4 hR, lt_d4 hR, kn_d5 hR, ln_d5 hR, lt_d5 hR, kn_d6 hR, ln_d6 hR, lt_d6 hR, kn_d7 hR, ln_d7 hR, lt_d7 hR, va_rf_some, push_s, push_n, nb0, nb1, nbb, Nat.reduceLT, rdS_1, rdS_2, hT.1, g1, g2, g3, g4, if_true, if_false, hix, hcl, htc.1, g5]
      by_cases ok : okw J n tc k = true
      · have ew := w1 ok
        have hp := okw_pos hJ0 ok
        have hs := sln_le n tc (n + 1) k ck
        rw [if_pos ok] at w2
        have v4 : (wnm J n tc k = -4) = False := eq_false (fun q => by
          unfold okw at ok
          rw [decide_eq_true q] at ok
          simp at ok)
        have hix := inb_nI (j := c) (n := 120) (by omega) (by decide)
        have hcl := nI_cl (n := c) (by omega)
        have c120 : (nI c < Int32.ofNat 120) = True := eq_true (nI_lt (b := 120) (by omega) (by omega))
        have nar : ∀ v, vp_nar (tm_akt 13) v = v := fun _ => rfl
        obtain ⟨C, F', p1, p2⟩ := c_readWords_loop hR hT hJ hJ0 fu (e + 1) (c + 1) (upd f c (wnm J n tc k)) (upd F c (wnm J n tc k)) (.int (wnm J n tc k)) (by omega) (by omega) (by omega) (fun i hi => by
          rw [ud, ud]
          by_cases q : i = c
          · rw [if_pos q, if_pos q]
          · rw [if_neg q, if_neg q]
            exact h4 i (by omega))
        have er : rwd J n tc (fu + 1) k c f = rwd J n tc fu (e + 1) (c + 1) (upd f c (wnm J n tc k)) := by
          rw [rwd, if_pos ck, if_pos ok, ew]
        rw [er]
        refine ⟨C, F', p1, fun Q => ?_⟩
        rw [st Q]
        simp only [e_71_62, e_71_63, e_71_64, e_71_65, e_71_68, e_71_69, e_71_70, e_71_72, e_71_75, e_71_76, e_71_79, e_71_80, e_71_83, e_71_84, e_71_87, e_71_88, e_71_89, e_71_90, e_71_93, e_71_94, e_71_97, e_71_98, e_71_99, e_71_100, e_71_101, e_71_104, e_71_105, e_71_106, e_71_109, e_71_110, e_71_111, e_71_112, e_71_113, e_71_116, rf_0_0 hR, rf_0_1 hR, rf_0_2 hR, rf_0_3 hR, rf_0_4 hR, rf_0_5 hR, rf_0_6 hR, rf_1_0 hR, rf_3_0 hR, rf_3_2 hR, rf_4_3 hR, rf_4_4 hR, rf_4_5 hR, rf_4_6 hR, rf_4_7 hR, rf_4_8 hR, rf_4_9 hR, rf_12_1 hR, rf_13_3 hR, rf_13_4 hR, rf_13_5 hR, rf_13_6 hR, rf_13_7 hR, rf_13_8 hR, rf_13_9 hR, rf_21_0 hR, rf_21_1 hR, rf_24_0 hR, rf_25_0 hR, rf_26_0 hR, rf_26_1 hR, rf_26_2 hR, rf_26_3 hR, rf_26_4 hR, rf_26_5 hR, rf_26_6 hR, rf_26_7 hR, rf_27_0 hR, rf_27_1 hR, rf_30_0 hR, rf_30_1 hR, rf_33_0 hR, rf_33_1 hR, rf_36_0 hR, rf_36_1 hR, rf_39_0 hR, rf_39_1 hR, rf_42_0 hR, rf_42_1 hR, rf_45_0 hR, rf_45_1 hR, rf_48_0 hR, rf_48_1 hR, rf_51_0 hR, rf_51_1 hR, rf_51_6 hR, rf_51_7 hR, rf_h_3 hR, rf_d_3 hR, rf_h_4 hR, rf_d_4 hR, rf_h_5 hR, rf_d_5 hR, rf_h_6 hR, rf_d_6 hR, rf_h_7 hR, rf_d_7 hR, rf_h_8 hR, rf_d_8 hR, rf_h_9 hR, rf_d_9 hR, rf_12_0 hR, rf_3_1 hR, kn_0, kn_1, kn_2, kn_3, kn_4, kn_5, kn_6, kn_7, kn_8, kn_9, kn_10, kn_11, kn_12, kn_13, kn_14, kn_15, kn_16, kn_17, kn_18, kn_19, kn_20, kn_21, kn_22, kn_23, kn_24, kn_25, kn_26, kn_27, kn_28, kn_29, kn_30, kn_31, kn_32, kn_33, kn_34, kn_35, kn_36, kn_37, kn_38, kn_39, kn_40, kn_41, kn_42, kn_43, kn_44, kn_45, kn_46, kn_47, kn_48, kn_49, kn_50, kn_51, kn_52, kn_53, kn_54, kn_55, ln_2, ln_5, ln_6, ln_7, ln_8, ln_9, ln_10, ln_11, ln_14, ln_15, ln_16, ln_17, ln_18, ln_19, ln_20, ln_22, ln_23, ln_26, ln_28, ln_29, ln_31, ln_32, ln_34, ln_35, ln_37, ln_38, ln_40, ln_41, ln_43, ln_44, ln_46, ln_47, ln_49, ln_50, ln_52, kn_h hR, lt_h hR, kn_h1 hR, ln_h1 hR, lt_h1 hR, kn_h2 hR, ln_h2 hR, lt_h2 hR, kn_h3 hR, ln_h3 hR, lt_h3 hR, kn_h4 hR, ln_h4 hR, lt_h4 hR, kn_h5 hR, ln_h5 hR, lt_h5 hR, kn_h6 hR, ln_h6 hR, lt_h6 hR, kn_h7 hR, ln_h7 hR, lt_h7 hR, kn_d hR, lt_d hR, kn_d1 hR, ln_d1 hR, lt_d1 hR, kn_d2 hR, ln_d2 hR, lt_d2 hR, kn_d3 hR, ln_d3 hR, lt_d3 hR, kn_d4 hR, ln_d4 hR, lt_d4 hR, kn_d5 hR, ln_d5 hR, lt_d5 hR, kn_d6 hR, ln_d6 hR, lt_d6 hR, kn_d7 hR, ln_d7 hR, lt_d7 hR, va_rf_some, push_s, push_n, nb0, nb1, nbb, Nat.reduceLT, hwa, w2, v4, if_false, rdS_c, ln_52, c120, if_true, hix, hcl, nar, rdS_52, rdS_up, nI_1]
        have hu : va_up (va_up (rdS I c F) 52 (upd F c (wnm J n tc k))) 51 (upd (rdS I c F 51) 2 (nI c + 1)) = rdS I (c + 1) (upd F c (wnm J n tc k)) := by
          rw [nI_1]
          exact rdS_up
        simp only [vu, Nat.reduceEqDiff, if_false, rdS_c, nI_1, rdS_up]
        exact p2 Q
      · rw [if_neg ok] at w2
        have er : (rwd J n tc (fu + 1) k c f).1 = false := by
          rw [rwd, if_pos ck, if_neg ok]
        refine ⟨c, F, fun q => (by rw [er] at q; cases q), fun Q => ?_⟩
        rw [er, st Q]
        simp only [e_71_62, e_71_63, e_71_64, e_71_65, e_71_68, e_71_69, e_71_70, e_71_72, e_71_75, e_71_76, e_71_79, e_71_80, e_71_83, e_71_84, e_71_87, e_71_88, rf_0_0 hR, rf_0_1 hR, rf_0_2 hR, rf_0_3 hR, rf_0_4 hR, rf_0_5 hR, rf_0_6 hR, rf_1_0 hR, rf_3_0 hR, rf_3_2 hR, rf_4_3 hR, rf_4_4 hR, rf_4_5 hR, rf_4_6 hR, rf_4_7 hR, rf_4_8 hR, rf_4_9 hR, rf_12_1 hR, rf_13_3 hR, rf_13_4 hR, rf_13_5 hR, rf_13_6 hR, rf_13_7 hR, rf_13_8 hR, rf_13_9 hR, rf_21_0 hR, rf_21_1 hR, rf_24_0 hR, rf_25_0 hR, rf_26_0 hR, rf_26_1 hR, rf_26_2 hR, rf_26_3 hR, rf_26_4 hR, rf_26_5 hR, rf_26_6 hR, rf_26_7 hR, rf_27_0 hR, rf_27_1 hR, rf_30_0 hR, rf_30_1 hR, rf_33_0 hR, rf_33_1 hR, rf_36_0 hR, rf_36_1 hR, rf_39_0 hR, rf_39_1 hR, rf_42_0 hR, rf_42_1 hR, rf_45_0 hR, rf_45_1 hR, rf_48_0 hR, rf_48_1 hR, rf_51_0 hR, rf_51_1 hR, rf_51_6 hR, rf_51_7 hR, rf_h_3 hR, rf_d_3 hR, rf_h_4 hR, rf_d_4 hR, rf_h_5 hR, rf_d_5 hR, rf_h_6 hR, rf_d_6 hR, rf_h_7 hR, rf_d_7 hR, rf_h_8 hR, rf_d_8 hR, rf_h_9 hR, rf_d_9 hR, rf_12_0 hR, rf_3_1 hR, kn_0, kn_1, kn_2, kn_3, kn_4, kn_5, kn_6, kn_7, kn_8, kn_9, kn_10, kn_11, kn_12, kn_13, kn_14, kn_15, kn_16, kn_17, kn_18, kn_19, kn_20, kn_21, kn_22, kn_23, kn_24, kn_25, kn_26, kn_27, kn_28, kn_29, kn_30, kn_31, kn_32, kn_33, kn_34, kn_35, kn_36, kn_37, kn_38, kn_39, kn_40, kn_41, kn_42, kn_43, kn_44, kn_45, kn_46, kn_47, kn_48, kn_49, kn_50, kn_51, kn_52, kn_53, kn_54, kn_55, ln_2, ln_5, ln_6, ln_7, ln_8, ln_9, ln_10, ln_11, ln_14, ln_15, ln_16, ln_17, ln_18, ln_19, ln_20, ln_22, ln_23, ln_26, ln_28, ln_29, ln_31, ln_32, ln_34, ln_35, ln_37, ln_38, ln_40, ln_41, ln_43, ln_44, ln_46, ln_47, ln_49, ln_50, ln_52, kn_h hR, lt_h hR, kn_h1 hR, ln_h1 hR, lt_h1 hR, kn_h2 hR, ln_h2 hR, lt_h2 hR, kn_h3 hR, ln_h3 hR, lt_h3 hR, kn_h4 hR, ln_h4 hR, lt_h4 hR, kn_h5 hR, ln_h5 hR, lt_h5 hR, kn_h6 hR, ln_h6 hR, lt_h6 hR, kn_h7 hR, ln_h7 hR, lt_h7 hR, kn_d hR, lt_d hR, kn_d1 hR, ln_d1 hR, lt_d1 hR, kn_d2 hR, ln_d2 hR, lt_d2 hR, kn_d3 hR, ln_d3 hR, lt_d3 hR, kn_d4 hR, ln_d4 hR, lt_d4 hR, kn_d5 hR, ln_d5 hR, lt_d5 hR, kn_d6 hR, ln_d6 hR, lt_d6 hR, kn_d7 hR, ln_d7 hR, lt_d7 hR, va_rf_some, push_s, push_n, nb0, nb1, nbb, Nat.reduceLT, hwa, w2, if_true]
        rfl
    · have er : rwd J n tc (fu + 1) k c f = (true, c, f) := by rw [rwd, if_neg ck]
      rw [er]
      refine ⟨c, F, fun _ => ⟨rfl, by omega, h4⟩, fun Q => ?_⟩
      have g1 : (nI n < nI k) = True := eq_true (nI_lt (by omega) (by omega))
      rw [e_71_9]
      simp only [e_71_10, e_71_11, e_71_14, e_71_17, e_71_20, e_71_21, e_71_24, e_71_27, e_71_28, e_71_29, e_71_32, e_71_35, e_71_38, e_71_39, e_71_42, e_71_45, e_71_46, e_71_49, e_71_52, e_71_53, e_71_54, e_71_56, e_71_59, e_71_119, e_71_120, rf_0_0 hR, rf_0_1 hR, rf_0_2 hR, rf_0_3 hR, rf_0_4 hR, rf_0_5 hR, rf_0_6 hR, rf_1_0 hR, rf_3_0 hR, rf_3_2 hR, rf_4_3 hR, rf_4_4 hR, rf_4_5 hR, rf_4_6 hR, rf_4_7 hR, rf_4_8 hR, rf_4_9 hR, rf_12_1 hR, rf_13_3 hR, rf_13_4 hR, rf_13_5 hR, rf_13_6 hR, rf_13_7 hR, rf_13_8 hR, rf_13_9 hR, rf_21_0 hR, rf_21_1 hR, rf_24_0 hR, rf_25_0 hR, rf_26_0 hR, rf_26_1 hR, rf_26_2 hR, rf_26_3 hR, rf_26_4 hR, rf_26_5 hR, rf_26_6 hR, rf_26_7 hR, rf_27_0 hR, rf_27_1 hR, rf_30_0 hR, rf_30_1 hR, rf_33_0 hR, rf_33_1 hR, rf_36_0 hR, rf_36_1 hR, rf_39_0 hR, rf_39_1 hR, rf_42_0 hR, rf_42_1 hR, rf_45_0 hR, rf_45_1 hR, rf_48_0 hR, rf_48_1 hR, rf_51_0 hR, rf_51_1 hR, rf_51_6 hR, rf_51_7 hR, rf_h_3 hR, rf_d_3 hR, rf_h_4 hR, rf_d_4 hR, rf_h_5 hR, rf_d_5 hR, rf_h_6 hR, rf_d_6 hR, rf_h_7 hR, rf_d_7 hR, rf_h_8 hR, rf_d_8 hR, rf_h_9 hR, rf_d_9 hR, rf_12_0 hR, rf_3_1 hR, kn_0, kn_1, kn_2, kn_3, kn_4, kn_5, kn_6, kn_7, kn_8, kn_9, kn_10, kn_11, kn_12, kn_13, kn_14, kn_15, kn_16, kn_17, kn_18, kn_19, kn_20, kn_21, kn_22, kn_23, kn_24, kn_25, kn_26, kn_27, kn_28, kn_29, kn_30, kn_31, kn_32, kn_33, kn_34, kn_35, kn_36, kn_37, kn_38, kn_39, kn_40, kn_41, kn_42, kn_43, kn_44, kn_45, kn_46, kn_47, kn_48, kn_49, kn_50, kn_51, kn_52, kn_53, kn_54, kn_55, ln_2, ln_5, ln_6, ln_7, ln_8, ln_9, ln_10, ln_11, ln_14, ln_15, ln_16, ln_17, ln_18, ln_19, ln_20, ln_22, ln_23, ln_26, ln_28, ln_29, ln_31, ln_32, ln_34, ln_35, ln_37, ln_38, ln_40, ln_41, ln_43, ln_44, ln_46, ln_47, ln_49, ln_50, ln_52, kn_h hR, lt_h hR, kn_h1 hR, ln_h1 hR, lt_h1 hR, kn_h2 hR, ln_h2 hR, lt_h2 hR, kn_h3 hR, ln_h3 hR, lt_h3 hR, kn_h4 hR, ln_h4 hR, lt_h4 hR, kn_h5 hR, ln_h5 hR, lt_h5 hR, kn_h6 hR, ln_h6 hR, lt_h6 hR, kn_h7 hR, ln_h7 hR, lt_h7 hR, kn_d hR, lt_d hR, kn_d1 hR, ln_d1 hR, lt_d1 hR, kn_d2 hR, ln_d2 hR, lt_d2 hR, kn_d3 hR, ln_d3 hR, lt_d3 hR, kn_d4 hR, ln_d4 hR, lt_d4 hR, kn_d5 hR, ln_d5 hR, lt_d5 hR, kn_d6 hR, ln_d6 hR, lt_d6 hR, kn_d7 hR, ln_d7 hR, lt_d7 hR, va_rf_some, push_s, push_n, nb0, nb1, nbb, Nat.reduceLT, rdS_1, hT.1, g1, if_true]
      rfl
theorem c_readWords (hR : tRef h d R) (hT : TXc I n tc) (hJ : JW J) (hJ0 : wrd J 0 43 0 = -4) (f : Nat → Int32) : ∃ C F', (wsO J n tc f = true → C = wsC J n tc f ∧ C ≤ 120 ∧ ∀ i, i < C → F' i = wsF J n tc f i) ∧ ∀ Q, tEv E 71 0 [.ref 51, tm_dum, tm_dum, tm_dum] [] (mS I J R) Q = Q (some (b2i (wsO J n tc f))) (mS (rdS I C F') J R) := by
  obtain ⟨C, F', p1, p2⟩ := c_readWords_loop (E := E) hR hT hJ hJ0 (n + 2) 0 0 f (I 52) tm_dum (by omega) (by omega) (by omega) (fun i hi => by omega)
  refine ⟨C, F', p1, fun Q => ?_⟩
  have e0 : va_up I 51 (upd (I 51) 2 0) = rdS I 0 (I 52) := by
    unfold rdS
    rw [vu_comm _ (k := 51) (j := 52) (by decide), vu_self]
    rfl
  simp only [e_71_0, e_71_1, e_71_2, e_71_5, e_71_6, e_71_7, e_71_8, rf_0_0 hR, rf_0_1 hR, rf_0_2 hR, rf_0_3 hR, rf_0_4 hR, rf_0_5 hR, rf_0_6 hR, rf_1_0 hR, rf_3_0 hR, rf_3_2 hR, rf_4_3 hR, rf_4_4 hR, rf_4_5 hR, rf_4_6 hR, rf_4_7 hR, rf_4_8 hR, rf_4_9 hR, rf_12_1 hR, rf_13_3 hR, rf_13_4 hR, rf_13_5 hR, rf_13_6 hR, rf_13_7 hR, rf_13_8 hR, rf_13_9 hR, rf_21_0 hR, rf_21_1 hR, rf_24_0 hR, rf_25_0 hR, rf_26_0 hR, rf_26_1 hR, rf_26_2 hR, rf_26_3 hR, rf_26_4 hR, rf_26_5 hR, rf_26_6 hR, rf_26_7 hR, rf_27_0 hR, rf_27_1 hR, rf_30_0 hR, rf_30_1 hR, rf_33_0 hR, rf_33_1 hR, rf_36_0 hR, rf_36_1 hR, rf_39_0 hR, rf_39_1 hR, rf_42_0 hR, rf_42_1 hR, rf_45_0 hR, rf_45_1 hR, rf_48_0 hR, rf_48_1 hR, rf_51_0 hR, rf_51_1 hR, rf_51_6 hR, rf_51_7 hR, rf_h_3 hR, rf_d_3 hR, rf_h_4 hR, rf_d_4 hR, rf_h_5 hR, rf_d_5 hR, rf_h_6 hR, rf_d_6 hR, rf_h_7 hR, rf_d_7 hR, rf_h_8 hR, rf_d_8 hR, rf_h_9 hR, rf_d_9 hR, rf_12_0 hR, rf_3_1 hR, kn_0, kn_1, kn_2, kn_3, kn_4, kn_5, kn_6, kn_7, kn_8, kn_9, kn_10, kn_11, kn_12, kn_13, kn_14, kn_15, kn_16, kn_17, kn_18, kn_19, kn_20, kn_21, kn_22, kn_23, kn_24, kn_25, kn_26, kn_27, kn_28, kn_29, kn_30, kn_31, kn_32, kn_33, kn_34, kn_35, kn_36, kn_37, kn_38, kn_39, kn_40, kn_41, kn_42, kn_43, kn_44, kn_45, kn_46, kn_47, kn_48, kn_49, kn_50, kn_51, kn_52, kn_53, kn_54, kn_55, ln_2, ln_5, ln_6, ln_7, ln_8, ln_9, ln_10, ln_11, ln_14, ln_15, ln_16, ln_17, ln_18, ln_19, ln_20, ln_22, ln_23, ln_26, ln_28, ln_29, ln_31, ln_32, ln_34, ln_35, ln_37, ln_38, ln_40, ln_41, ln_43, ln_44, ln_46, ln_47, ln_49, ln_50, ln_52, kn_h hR, lt_h hR, kn_h1 hR, ln_h1 hR, lt_h1 hR, kn_h2 hR, ln_h2 hR, lt_h2 hR, kn_h3 hR, ln_h3 hR, lt_h3 hR, kn_h4 hR, ln_h4 hR, lt_h4 hR, kn_h5 hR, ln_h5 hR, lt_h5 hR, kn_h6 hR, ln_h6 hR, lt_h6 hR, kn_h7 hR, ln_h7 hR, lt_h7 hR, kn_d hR, lt_d hR, kn_d1 hR, ln_d1 hR, lt_d1 hR, kn_d2 hR, ln_d2 hR, lt_d2 hR, kn_d3 hR, ln_d3 hR, lt_d3 hR, kn_d4 hR, ln_d4 hR, lt_d4 hR, kn_d5 hR, ln_d5 hR, lt_d5 hR, kn_d6 hR, ln_d6 hR, lt_d6 hR, kn_d7 hR, ln_d7 hR, lt_d7 hR, va_rf_some, push_s, push_n, nb0, nb1, nbb, Nat.reduceLT, e0]
  exact p2 Q
end G2
