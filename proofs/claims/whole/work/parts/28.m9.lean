/-! ===== the model: all taken, all dropped, looked round ===== -/
/-- the rows with new places -/
def pF (f : Nat → Int32) (pl : Nat → Nat) (n q : Nat) : Int32 := if q < n then nI (pl q) else f q
def updN (f : Nat → Nat) (k v j : Nat) : Nat := if j = k then v else f j
theorem pF_self {f : Nat → Int32} {pl : Nat → Nat} {n : Nat} (h : ∀ t, t < n → f t = nI (pl t)) : pF f pl n = f := by
  funext q
  unfold pF
  split
  · rw [h q (by assumption)]
  · rfl
theorem pF_upd {f : Nat → Int32} {pl : Nat → Nat} {n k v : Nat} (hk : k < n) : upd (pF f pl n) k (nI v) = pF f (updN pl k v) n := by
  funext q
  rw [ud]
  unfold pF updN
  by_cases h : q = k
  · subst h
    rw [if_pos rfl, if_pos hk, if_pos rfl]
  · rw [if_neg h, if_neg h]
/-- a chain ends still when some are put where it ends -/
theorem ends_out {pl : Nat → Nat} {k v : Nat} (hv : inT v = false) {t : Nat} (h : ends pl t) : ends (updN pl k v) t := by
  obtain ⟨n, hn⟩ := h
  have key : ∀ m, (∃ i, i ≤ m ∧ inT (ch (updN pl k v) t i) = false) ∨ ch (updN pl k v) t m = ch pl t m := by
    intro m
    induction m with
    | zero =>
      unfold ch updN
      by_cases e : t = k
      · left
        refine ⟨0, Nat.le_refl 0, ?_⟩
        unfold ch
        rw [if_pos e]
        exact hv
      · right
        rw [if_neg e]
    | succ m ih =>
      rcases ih with ⟨i, h1, h2⟩ | ih
      · exact Or.inl ⟨i, by omega, h2⟩
      · by_cases hi : inT (ch pl t m) = true
        · by_cases e : ch pl t m - 10 = k
          · left
            refine ⟨m + 1, Nat.le_refl _, ?_⟩
            rw [ch, ih, nx_in hi, updN, if_pos e]
            exact hv
          · right
            rw [ch, ih, nx_in hi, updN, if_neg e, ch, nx_in hi]
        · left
          refine ⟨m, by omega, ?_⟩
          rw [ih]
          simpa using hi
  rcases key n with ⟨i, _, h⟩ | h
  · exact ⟨i, h⟩
  · exact ⟨n, by rw [h]; exact hn⟩
theorem mW_put {I I' : Nat → Nat → Int32} {nr nt : Nat} {pl : Nat → Nat} (h : mW I nr nt pl) {k v : Nat} (hv : v < nr ∨ v = 30) (h1 : I' 56 2 = I 56 2) (h2 : I' 56 3 = I 56 3) (h3 : ∀ t, t < nt → I' 57 t = nI (updN pl k v t)) : mW I' nr nt (updN pl k v) := by
  refine ⟨h1.trans h.1, h2.trans h.2.1, h.2.2.1, h.2.2.2.1, fun t ht => ⟨h3 t ht, ?_⟩, fun t ht => ends_out ?_ (h.2.2.2.2.2 t ht)⟩
  · unfold updN
    split
    · rcases hv with q | q
      · exact Or.inl q
      · exact Or.inr (Or.inr q)
    · exact (h.2.2.2.2.1 t ht).2
  · have := h.2.2.1
    unfold inT
    rw [decide_eq_false]
    omega
/-- the places as one takes all of a set, up to n -/
def tka (I : Nat → Nat → Int32) (pl : Nat → Nat) (nt : Nat) (s : Nat → Bool) : Nat → Nat → Nat
  | 0 => pl
  | n + 1 => if (s n && mmay I (tka I pl nt s n) nt n) = true then updN (tka I pl nt s n) n 30 else tka I pl nt s n
def tkb (I : Nat → Nat → Int32) (pl : Nat → Nat) (nt : Nat) (s : Nat → Bool) (n : Nat) : Bool := s n && mmay I (tka I pl nt s n) nt n
theorem tka_none {I : Nat → Nat → Int32} {pl : Nat → Nat} {nt : Nat} {s : Nat → Bool} : ∀ {n : Nat}, anyb (tkb I pl nt s) n = false → tka I pl nt s n = pl
  | 0, _ => rfl
  | n + 1, h => by
    rw [anyb, Bool.or_eq_false_iff] at h
    have h2 : (s n && mmay I (tka I pl nt s n) nt n) = false := h.2
    rw [tka, h2, tka_none h.1]
    rfl
section M9
variable {E : tm_Env} {Q : Option Int32 → tm_St → Prop} {I : Nat → Nat → Int32} {J : Nat → Nat → Int64} {R : Nat → Nat → Option Nat} {h d : Nat} {nr nt y : Nat} {pl : Nat → Nat}
theorem tka_W {f : Nat → Int32} {u : Nat} (hW : mW I nr nt pl) {s : Nat → Bool} : ∀ n, n ≤ nt → mW (mmd I u (pF f (tka I pl nt s n) nt)) nr nt (tka I pl nt s n)
  | 0, _ => by
    refine mW_cong (I := mmd I u (pF f pl nt)) ?_ rfl rfl (fun _ _ => rfl)
    refine ⟨hW.1, hW.2.1, hW.2.2.1, hW.2.2.2.1, fun t ht => ⟨?_, (hW.2.2.2.2.1 t ht).2⟩, hW.2.2.2.2.2⟩
    rw [mmd_57, pF, if_pos ht]
    rfl
  | n + 1, hn => by
    have ih := tka_W (f := f) (u := u) hW (s := s) n (by omega)
    rw [tka]
    split
    · refine mW_put ih (Or.inr rfl) rfl rfl (fun t ht => ?_)
      rw [mmd_57, pF, if_pos ht]
    · exact ih
theorem m_takesAll_loop (hR : tRef h d R) (hW : mW I nr nt pl) {u : Nat} (hu : u ≤ 8) (h1 : I 56 1 = nI u) {s : Int32} : ∀ j i l, i + j = nt → l = nI (ct (tkb I pl nt (bt s)) i) → tEv E 182 9 [.ref 56, .int s, .int l, .int (nI i)] [] (mS (if anyb (tkb I pl nt (bt s)) i = true then mmd I u (pF (mmind (I 57) u) (tka I pl nt (bt s) i) nt) else I) J R) Q = tEv E 182 60 [.ref 56, .int s, .int (nI (ct (tkb I pl nt (bt s)) nt)), .int (nI nt)] [] (mS (if anyb (tkb I pl nt (bt s)) nt = true then mmd I u (pF (mmind (I 57) u) (tka I pl nt (bt s) nt) nt) else I) J R) Q
  | 0, i, l, hj, he => by
    obtain rfl : i = nt := by omega
    have h3 : ∀ F, mmd I u F 56 3 = nI i := fun F => hW.2.1
    have hn : (nI i < nI i) = False := eq_false Int32.lt_irrefl
    rw [e_182_9]
    rw [he]
    split
    · simp only [e_182_10, e_182_11, e_182_14, e_182_17, e_182_18, e_182_19, e_182_22, e_182_25, e_182_26, e_182_27, e_182_30, e_182_33, e_182_34, e_182_37, e_182_38, e_182_41, e_182_44, e_182_45, e_182_48, e_182_49, e_182_50, e_182_51, e_182_53, e_182_54, e_182_57, rf_56_0 hR, rf_56_4 hR, rf_56_5 hR, rf_56_6 hR, rf_56_7 hR, rf_56_8 hR, rf_56_9 hR, rf_56_10 hR, rf_56_11 hR, rf_56_12 hR, rf_56_14 hR, rf_56_15 hR, rf_56_19 hR, rf_56_20 hR, rf_56_21 hR, rf_56_22 hR, rf_56_23 hR, rf_56_24 hR, rf_56_25 hR, rf_56_26 hR, rf_56_27 hR, rf_56_29 hR, rf_56_32 hR, rf_56_33 hR, rf_56_34 hR, rf_56_37 hR, rf_56_38 hR, kn_56, kn_57, kn_58, kn_59, kn_60, kn_61, kn_62, kn_63, kn_64, kn_65, kn_66, kn_67, kn_68, kn_69, kn_70, kn_71, kn_72, kn_73, kn_74, kn_75, kn_76, kn_77, kn_78, kn_79, kn_80, kn_81, kn_82, kn_83, ln_57, ln_58, ln_59, ln_60, ln_61, ln_62, ln_63, ln_64, ln_65, ln_66, ln_67, ln_68, ln_69, ln_70, ln_71, ln_72, ln_73, ln_74, ln_75, ln_76, ln_77, ln_78, ln_79, ln_80, ln_81, ln_82, ln_83, va_rf_some, push_s, push_n, nb0, nb1, nbb, Nat.reduceLT, h3, hn, if_false]
    · simp only [e_182_10, e_182_11, e_182_14, e_182_17, e_182_18, e_182_19, e_182_22, e_182_25, e_182_26, e_182_27, e_182_30, e_182_33, e_182_34, e_182_37, e_182_38, e_182_41, e_182_44, e_182_45, e_182_48, e_182_49, e_182_50, e_182_51, e_182_53, e_182_54, e_182_57, rf_56_0 hR, rf_56_4 hR, rf_56_5 hR, rf_56_6 hR, rf_56_7 hR, rf_56_8 hR, rf_56_9 hR, rf_56_10 hR, rf_56_11 hR, rf_56_12 hR, rf_56_14 hR, rf_56_15 hR, rf_56_19 hR, rf_56_20 hR, rf_56_21 hR, rf_56_22 hR, rf_56_23 hR, rf_56_24 hR, rf_56_25 hR, rf_56_26 hR, rf_56_27 hR, rf_56_29 hR, rf_56_32 hR, rf_56_33 hR, rf_56_34 hR, rf_56_37 hR, rf_56_38 hR, kn_56, kn_57, kn_58, kn_59, kn_60, kn_61, kn_62, kn_63, kn_64, kn_65, kn_66, kn_67, kn_68, kn_69, kn_70, kn_71, kn_72, kn_73, kn_74, kn_75, kn_76, kn_77, kn_78, kn_79, kn_80, kn_81, kn_82, kn_83, ln_57, ln_58, ln_59, ln_60, ln_61, ln_62, ln_63, ln_64, ln_65, ln_66, ln_67, ln_68, ln_69, ln_70, ln_71, ln_72, ln_73, ln_74, ln_75, ln_76, ln_77, ln_78, ln_79, ln_80, ln_81, ln_82, ln_83, va_rf_some, push_s, push_n, nb0, nb1, nbb, Nat.reduceLT, hW.2.1, hn, if_false]
  | j + 1, i, l, hj, he => by
    have h16 := hW.2.2.2.1
    have h3 : ∀ F, mmd I u F 56 3 = nI nt := fun F => hW.2.1
    have hn : (nI i < nI nt) = True := eq_true (nI_lt (by omega) (by omega))
    have ih := fun l' e => m_takesAll_loop hR hW hu h1 (s := s) j (i + 1) l' (by omega) e
    have hle := ct_le (tkb I pl nt (bt s)) i
    have hz : (0 : Int32) + nI i = nI i := Int32.zero_add _
    have hix := inb_nI (j := i) (n := 468) (by omega) (by decide)
    have hcl := nI_cl (n := i) (by omega)
    have hmi := fun {Q} => m_mindsD (E := E) (Q := Q) (J := J) (I := I) hR hu h1
    rw [e_182_9, he]
    by_cases c0 : anyb (tkb I pl nt (bt s)) i = true
    · have hW2 := tka_W (f := mmind (I 57) u) (u := u) hW (s := bt s) i (by omega)
      have hmt := fun {Q} => m_mayTake (E := E) (Q := Q) (J := J) hR hW2 (show i < nt by omega)
      have hme : mmay (mmd I u (pF (mmind (I 57) u) (tka I pl nt (bt s) i) nt)) (tka I pl nt (bt s) i) nt i = mmay I (tka I pl nt (bt s) i) nt i := rfl
      rw [hme] at hmt
      have hcn : (nI (ct (tkb I pl nt (bt s)) i) = 0) = False := eq_false (fun e => by
        have e' := (nI_eq (b := 0) (by omega) (by omega)).mp e
        rw [ct_0.mp e'] at c0
        cases c0)
      have a1 : anyb (tkb I pl nt (bt s)) (i + 1) = true := by rw [anyb, c0]; rfl
      have et : tkb I pl nt (bt s) i = (bt s i && mmay I (tka I pl nt (bt s) i) nt i) := rfl
      have hp : upd (pF (mmind (I 57) u) (tka I pl nt (bt s) i) nt) i 30 = pF (mmind (I 57) u) (updN (tka I pl nt (bt s) i) i 30) nt := pF_upd (v := 30) (by omega)
      rw [if_pos c0]
      rw [if_pos a1] at ih
      simp only [e_182_10, e_182_11, e_182_14, e_182_17, e_182_18, e_182_19, e_182_22, e_182_25, e_182_26, e_182_27, e_182_30, e_182_33, e_182_34, e_182_37, e_182_38, e_182_41, e_182_44, e_182_45, e_182_48, e_182_49, e_182_50, e_182_51, e_182_53, e_182_54, e_182_57, rf_56_0 hR, rf_56_4 hR, rf_56_5 hR, rf_56_6 hR, rf_56_7 hR, rf_56_8 hR, rf_56_9 hR, rf_56_10 hR, rf_56_11 hR, rf_56_12 hR, rf_56_14 hR, rf_56_15 hR, rf_56_19 hR, rf_56_20 hR, rf_56_21 hR, rf_56_22 hR, rf_56_23 hR, rf_56_24 hR, rf_56_25 hR, rf_56_26 hR, rf_56_27 hR, rf_56_29 hR, rf_56_32 hR, rf_56_33 hR, rf_56_34 hR, rf_56_37 hR, rf_56_38 hR, kn_56, kn_57, kn_58, kn_59, kn_60, kn_61, kn_62, kn_63, kn_64, kn_65, kn_66, kn_67, kn_68, kn_69, kn_70, kn_71, kn_72, kn_73, kn_74, kn_75, kn_76, kn_77, kn_78, kn_79, kn_80, kn_81, kn_82, kn_83, ln_57, ln_58, ln_59, ln_60, ln_61, ln_62, ln_63, ln_64, ln_65, ln_66, ln_67, ln_68, ln_69, ln_70, ln_71, ln_72, ln_73, ln_74, ln_75, ln_76, ln_77, ln_78, ln_79, ln_80, ln_81, ln_82, ln_83, va_rf_some, push_s, push_n, nb0, nb1, nbb, Nat.reduceLT, h3, hn, if_true, m_has (show i < 32 by omega), b2i_0, hmt, hcn, if_false, hz, hix, hcl, mmd_57, mmd_up, nI_1]
      cases c1 : bt s i with
      | false =>
        rw [if_pos rfl]
        have := ih _ rfl
        rw [ct, et, tka, c1] at this
        exact this
      | true =>
        rw [if_neg (by decide)]
        cases c2 : mmay I (tka I pl nt (bt s) i) nt i with
        | false =>
          rw [if_pos rfl]
          have := ih _ rfl
          rw [ct, et, tka, c1, c2] at this
          exact this
        | true =>
          rw [if_neg (by decide), hp]
          have := ih _ rfl
          rw [ct, et, tka, c1, c2] at this
          exact this
    · have c0' : anyb (tkb I pl nt (bt s)) i = false := by simpa using c0
      have et : tkb I pl nt (bt s) i = (bt s i && mmay I (tka I pl nt (bt s) i) nt i) := rfl
      have hpl := tka_none c0'
      have hct : ct (tkb I pl nt (bt s)) i = 0 := ct_0.mpr c0'
      have hmt := fun {Q} => m_mayTake (E := E) (Q := Q) (J := J) hR hW (show i < nt by omega)
      have hfs : pF (mmind (I 57) u) pl nt = mmind (I 57) u := pF_self (fun t ht => by rw [mmind_lo _ (by omega), (hW.2.2.2.2.1 t ht).1])
      have hp : upd (mmind (I 57) u) i 30 = pF (mmind (I 57) u) (updN pl i 30) nt := by
        have := pF_upd (f := mmind (I 57) u) (pl := pl) (v := 30) (show i < nt by omega)
        rw [hfs] at this
        exact this
      rw [hpl] at et
      rw [if_neg c0, hct]
      simp only [e_182_10, e_182_11, e_182_14, e_182_17, e_182_18, e_182_19, e_182_22, e_182_25, e_182_26, e_182_27, e_182_30, e_182_33, e_182_34, e_182_37, e_182_38, e_182_41, e_182_44, e_182_45, e_182_48, e_182_49, e_182_50, e_182_51, e_182_53, e_182_54, e_182_57, rf_56_0 hR, rf_56_4 hR, rf_56_5 hR, rf_56_6 hR, rf_56_7 hR, rf_56_8 hR, rf_56_9 hR, rf_56_10 hR, rf_56_11 hR, rf_56_12 hR, rf_56_14 hR, rf_56_15 hR, rf_56_19 hR, rf_56_20 hR, rf_56_21 hR, rf_56_22 hR, rf_56_23 hR, rf_56_24 hR, rf_56_25 hR, rf_56_26 hR, rf_56_27 hR, rf_56_29 hR, rf_56_32 hR, rf_56_33 hR, rf_56_34 hR, rf_56_37 hR, rf_56_38 hR, kn_56, kn_57, kn_58, kn_59, kn_60, kn_61, kn_62, kn_63, kn_64, kn_65, kn_66, kn_67, kn_68, kn_69, kn_70, kn_71, kn_72, kn_73, kn_74, kn_75, kn_76, kn_77, kn_78, kn_79, kn_80, kn_81, kn_82, kn_83, ln_57, ln_58, ln_59, ln_60, ln_61, ln_62, ln_63, ln_64, ln_65, ln_66, ln_67, ln_68, ln_69, ln_70, ln_71, ln_72, ln_73, ln_74, ln_75, ln_76, ln_77, ln_78, ln_79, ln_80, ln_81, ln_82, ln_83, va_rf_some, push_s, push_n, nb0, nb1, nbb, Nat.reduceLT, hW.2.1, h3, hn, if_true, m_has (show i < 32 by omega), b2i_0, hmt, show nI 0 = (0 : Int32) from rfl, hmi, hz, hix, hcl, mmd_57, mmd_up, nI_1]
      cases c1 : bt s i with
      | false =>
        rw [if_pos rfl]
        have := ih _ rfl
        rw [ct, anyb, c0', et, tka, hpl, c1, hct] at this
        exact this
      | true =>
        rw [if_neg (by decide)]
        cases c2 : mmay I pl nt i with
        | false =>
          rw [if_pos rfl]
          have := ih _ rfl
          rw [ct, anyb, c0', et, tka, hpl, c1, c2, hct] at this
          exact this
        | true =>
          rw [if_neg (by decide), hp]
          have := ih _ rfl
          rw [ct, anyb, c0', et, tka, hpl, c1, c2, hct] at this
          exact this
theorem m_takesAll_0 (hR : tRef h d R) (hW : mW I nr nt pl) (hY : mY I nr nt y) {u : Nat} (hu : u ≤ 8) (h1 : I 56 1 = nI u) (hn : anyb (tkb I pl nt (bt (msee I pl nt y))) nt = false) : tEv E 182 0 [.ref 56, tm_dum, tm_dum, tm_dum] [] (mS I J R) Q = Q (some 17) (mS I J R) := by
  have hl := m_takesAll_loop (E := E) (Q := Q) (J := J) hR hW hu h1 (s := msee I pl nt y) nt 0 0 (by omega) rfl
  rw [hn, ct_0.mpr hn] at hl
  simp only [e_182_0, e_182_1, e_182_4, e_182_5, e_182_6, e_182_7, e_182_8, rf_56_0 hR, rf_56_4 hR, rf_56_5 hR, rf_56_6 hR, rf_56_7 hR, rf_56_8 hR, rf_56_9 hR, rf_56_10 hR, rf_56_11 hR, rf_56_12 hR, rf_56_14 hR, rf_56_15 hR, rf_56_19 hR, rf_56_20 hR, rf_56_21 hR, rf_56_22 hR, rf_56_23 hR, rf_56_24 hR, rf_56_25 hR, rf_56_26 hR, rf_56_27 hR, rf_56_29 hR, rf_56_32 hR, rf_56_33 hR, rf_56_34 hR, rf_56_37 hR, rf_56_38 hR, kn_56, kn_57, kn_58, kn_59, kn_60, kn_61, kn_62, kn_63, kn_64, kn_65, kn_66, kn_67, kn_68, kn_69, kn_70, kn_71, kn_72, kn_73, kn_74, kn_75, kn_76, kn_77, kn_78, kn_79, kn_80, kn_81, kn_82, kn_83, ln_57, ln_58, ln_59, ln_60, ln_61, ln_62, ln_63, ln_64, ln_65, ln_66, ln_67, ln_68, ln_69, ln_70, ln_71, ln_72, ln_73, ln_74, ln_75, ln_76, ln_77, ln_78, ln_79, ln_80, ln_81, ln_82, ln_83, va_rf_some, push_s, push_n, nb0, nb1, nbb, Nat.reduceLT, m_seen hR hW hY]
  refine hl.trans ?_
  simp only [Bool.false_eq_true, if_false, e_182_60, e_182_61, e_182_64, e_182_66, e_182_69, e_182_70, e_182_73, rf_56_0 hR, rf_56_4 hR, rf_56_5 hR, rf_56_6 hR, rf_56_7 hR, rf_56_8 hR, rf_56_9 hR, rf_56_10 hR, rf_56_11 hR, rf_56_12 hR, rf_56_14 hR, rf_56_15 hR, rf_56_19 hR, rf_56_20 hR, rf_56_21 hR, rf_56_22 hR, rf_56_23 hR, rf_56_24 hR, rf_56_25 hR, rf_56_26 hR, rf_56_27 hR, rf_56_29 hR, rf_56_32 hR, rf_56_33 hR, rf_56_34 hR, rf_56_37 hR, rf_56_38 hR, kn_56, kn_57, kn_58, kn_59, kn_60, kn_61, kn_62, kn_63, kn_64, kn_65, kn_66, kn_67, kn_68, kn_69, kn_70, kn_71, kn_72, kn_73, kn_74, kn_75, kn_76, kn_77, kn_78, kn_79, kn_80, kn_81, kn_82, kn_83, ln_57, ln_58, ln_59, ln_60, ln_61, ln_62, ln_63, ln_64, ln_65, ln_66, ln_67, ln_68, ln_69, ln_70, ln_71, ln_72, ln_73, ln_74, ln_75, ln_76, ln_77, ln_78, ln_79, ln_80, ln_81, ln_82, ln_83, va_rf_some, push_s, push_n, nb0, nb1, nbb, Nat.reduceLT, show nI 0 = (0 : Int32) from rfl, reduceIte]
theorem m_takesAll_1 (hR : tRef h d R) (hW : mW I nr nt pl) (hY : mY I nr nt y) {u : Nat} (hu : u ≤ 8) (h1 : I 56 1 = nI u) (hn : anyb (tkb I pl nt (bt (msee I pl nt y))) nt = true) : tEv E 182 0 [.ref 56, tm_dum, tm_dum, tm_dum] [] (mS I J R) Q = Q (some 0) (mS (mfin I u (mturn (pF (mmind (I 57) u) (tka I pl nt (bt (msee I pl nt y)) nt) nt) nt)) J R) := by
  have h16 := hW.2.2.2.1
  have hl := m_takesAll_loop (E := E) (Q := Q) (J := J) hR hW hu h1 (s := msee I pl nt y) nt 0 0 (by omega) rfl
  have hle := ct_le (tkb I pl nt (bt (msee I pl nt y))) nt
  have hcn : (nI (ct (tkb I pl nt (bt (msee I pl nt y))) nt) = 0) = False := eq_false (fun e => by
    have e' := (nI_eq (b := 0) (by omega) (by omega)).mp e
    rw [ct_0.mp e'] at hn
    cases hn)
  have htu := fun {F Q} => m_turnsD (E := E) (Q := Q) (J := J) (u := u) (F := F) (I := I) (nt := nt) hR hW.2.1 h16
  rw [hn] at hl
  simp only [e_182_0, e_182_1, e_182_4, e_182_5, e_182_6, e_182_7, e_182_8, rf_56_0 hR, rf_56_4 hR, rf_56_5 hR, rf_56_6 hR, rf_56_7 hR, rf_56_8 hR, rf_56_9 hR, rf_56_10 hR, rf_56_11 hR, rf_56_12 hR, rf_56_14 hR, rf_56_15 hR, rf_56_19 hR, rf_56_20 hR, rf_56_21 hR, rf_56_22 hR, rf_56_23 hR, rf_56_24 hR, rf_56_25 hR, rf_56_26 hR, rf_56_27 hR, rf_56_29 hR, rf_56_32 hR, rf_56_33 hR, rf_56_34 hR, rf_56_37 hR, rf_56_38 hR, kn_56, kn_57, kn_58, kn_59, kn_60, kn_61, kn_62, kn_63, kn_64, kn_65, kn_66, kn_67, kn_68, kn_69, kn_70, kn_71, kn_72, kn_73, kn_74, kn_75, kn_76, kn_77, kn_78, kn_79, kn_80, kn_81, kn_82, kn_83, ln_57, ln_58, ln_59, ln_60, ln_61, ln_62, ln_63, ln_64, ln_65, ln_66, ln_67, ln_68, ln_69, ln_70, ln_71, ln_72, ln_73, ln_74, ln_75, ln_76, ln_77, ln_78, ln_79, ln_80, ln_81, ln_82, ln_83, va_rf_some, push_s, push_n, nb0, nb1, nbb, Nat.reduceLT, m_seen hR hW hY]
  refine hl.trans ?_
  simp only [if_true, e_182_60, e_182_61, e_182_64, e_182_66, e_182_69, e_182_70, e_182_73, rf_56_0 hR, rf_56_4 hR, rf_56_5 hR, rf_56_6 hR, rf_56_7 hR, rf_56_8 hR, rf_56_9 hR, rf_56_10 hR, rf_56_11 hR, rf_56_12 hR, rf_56_14 hR, rf_56_15 hR, rf_56_19 hR, rf_56_20 hR, rf_56_21 hR, rf_56_22 hR, rf_56_23 hR, rf_56_24 hR, rf_56_25 hR, rf_56_26 hR, rf_56_27 hR, rf_56_29 hR, rf_56_32 hR, rf_56_33 hR, rf_56_34 hR, rf_56_37 hR, rf_56_38 hR, kn_56, kn_57, kn_58, kn_59, kn_60, kn_61, kn_62, kn_63, kn_64, kn_65, kn_66, kn_67, kn_68, kn_69, kn_70, kn_71, kn_72, kn_73, kn_74, kn_75, kn_76, kn_77, kn_78, kn_79, kn_80, kn_81, kn_82, kn_83, ln_57, ln_58, ln_59, ln_60, ln_61, ln_62, ln_63, ln_64, ln_65, ln_66, ln_67, ln_68, ln_69, ln_70, ln_71, ln_72, ln_73, ln_74, ln_75, ln_76, ln_77, ln_78, ln_79, ln_80, ln_81, ln_82, ln_83, va_rf_some, push_s, push_n, nb0, nb1, nbb, Nat.reduceLT, hcn, if_false, htu]
def drp (pl : Nat → Nat) (y n q : Nat) : Nat := if q < n ∧ pl q = 30 then y else pl q
theorem m_dropsAll_loop (hR : tRef h d R) (hW : mW I nr nt pl) (hY : mY I nr nt y) {u : Nat} {f : Nat → Int32} (hf : ∀ q, q < 52 → f q = I 57 q) : ∀ j i, i + j = nt → tEv E 183 18 [.ref 56, .int (nI i)] [] (mS (mmd I u (pF f (drp pl y i) nt)) J R) Q = tEv E 183 66 [.ref 56, .int (nI nt)] [] (mS (mmd I u (pF f (drp pl y nt) nt)) J R) Q
  | 0, i, hj => by
    obtain rfl : i = nt := by omega
    have h3 : ∀ F, mmd I u F 56 3 = nI i := fun F => hW.2.1
    have hn : (nI i < nI i) = False := eq_false Int32.lt_irrefl
    rw [e_183_18]
    simp only [e_183_19, e_183_20, e_183_23, e_183_26, e_183_27, e_183_30, e_183_31, e_183_32, e_183_33, e_183_34, e_183_35, e_183_38, e_183_41, e_183_42, e_183_45, e_183_47, e_183_48, e_183_51, e_183_52, e_183_55, e_183_56, e_183_57, e_183_58, e_183_59, e_183_60, e_183_63, rf_56_0 hR, rf_56_4 hR, rf_56_5 hR, rf_56_6 hR, rf_56_7 hR, rf_56_8 hR, rf_56_9 hR, rf_56_10 hR, rf_56_11 hR, rf_56_12 hR, rf_56_14 hR, rf_56_15 hR, rf_56_19 hR, rf_56_20 hR, rf_56_21 hR, rf_56_22 hR, rf_56_23 hR, rf_56_24 hR, rf_56_25 hR, rf_56_26 hR, rf_56_27 hR, rf_56_29 hR, rf_56_32 hR, rf_56_33 hR, rf_56_34 hR, rf_56_37 hR, rf_56_38 hR, kn_56, kn_57, kn_58, kn_59, kn_60, kn_61, kn_62, kn_63, kn_64, kn_65, kn_66, kn_67, kn_68, kn_69, kn_70, kn_71, kn_72, kn_73, kn_74, kn_75, kn_76, kn_77, kn_78, kn_79, kn_80, kn_81, kn_82, kn_83, ln_57, ln_58, ln_59, ln_60, ln_61, ln_62, ln_63, ln_64, ln_65, ln_66, ln_67, ln_68, ln_69, ln_70, ln_71, ln_72, ln_73, ln_74, ln_75, ln_76, ln_77, ln_78, ln_79, ln_80, ln_81, ln_82, ln_83, va_rf_some, push_s, push_n, nb0, nb1, nbb, Nat.reduceLT, h3, hn, if_false]
  | j + 1, i, hj => by
    have h16 := hW.2.2.2.1
    have h3 : ∀ F, mmd I u F 56 3 = nI nt := fun F => hW.2.1
    have hn : (nI i < nI nt) = True := eq_true (nI_lt (by omega) (by omega))
    have ih := m_dropsAll_loop hR hW hY (u := u) hf j (i + 1) (by omega)
    have hz : (0 : Int32) + nI i = nI i := Int32.zero_add _
    have hix := inb_nI (j := i) (n := 468) (by omega) (by decide)
    have hcl := nI_cl (n := i) (by omega)
    have h48 : tm_inb 48 468 = true := by decide
    have hc48 : (48 : Int32).toNatClampNeg = 48 := by decide
    have hpl := mW_pl hW (show i < nt by omega)
    have hv : pF f (drp pl y i) nt i = nI (pl i) := by
      rw [pF, if_pos (by omega), drp, if_neg (by omega)]
    have hy48 : pF f (drp pl y i) nt 48 = nI y := by
      rw [pF, if_neg (by omega), hf 48 (by decide), hY.1]
    have heq : (nI (pl i) = 30) = (pl i = 30) := propext (nI_eq (b := 30) (by omega) (by omega))
    have key : ∀ v, (v = if pl i = 30 then y else pl i) → upd (pF f (drp pl y i) nt) i (nI v) = pF f (drp pl y (i + 1)) nt := by
      intro v hv
      rw [pF_upd (by omega)]
      congr 1
      funext q
      unfold updN drp
      by_cases e : q = i
      · subst e
        rw [if_pos rfl, hv]
        by_cases e2 : pl q = 30
        · rw [if_pos e2, if_pos ⟨by omega, e2⟩]
        · rw [if_neg e2, if_neg (fun c => e2 c.2)]
      · rw [if_neg e]
        by_cases e2 : q < i ∧ pl q = 30
        · rw [if_pos e2, if_pos ⟨by omega, e2.2⟩]
        · rw [if_neg e2, if_neg (fun c => e2 ⟨by omega, c.2⟩)]
    rw [e_183_18]
    simp only [e_183_19, e_183_20, e_183_23, e_183_26, e_183_27, e_183_30, e_183_31, e_183_32, e_183_33, e_183_34, e_183_35, e_183_38, e_183_41, e_183_42, e_183_45, e_183_47, e_183_48, e_183_51, e_183_52, e_183_55, e_183_56, e_183_57, e_183_58, e_183_59, e_183_60, e_183_63, rf_56_0 hR, rf_56_4 hR, rf_56_5 hR, rf_56_6 hR, rf_56_7 hR, rf_56_8 hR, rf_56_9 hR, rf_56_10 hR, rf_56_11 hR, rf_56_12 hR, rf_56_14 hR, rf_56_15 hR, rf_56_19 hR, rf_56_20 hR, rf_56_21 hR, rf_56_22 hR, rf_56_23 hR, rf_56_24 hR, rf_56_25 hR, rf_56_26 hR, rf_56_27 hR, rf_56_29 hR, rf_56_32 hR, rf_56_33 hR, rf_56_34 hR, rf_56_37 hR, rf_56_38 hR, kn_56, kn_57, kn_58, kn_59, kn_60, kn_61, kn_62, kn_63, kn_64, kn_65, kn_66, kn_67, kn_68, kn_69, kn_70, kn_71, kn_72, kn_73, kn_74, kn_75, kn_76, kn_77, kn_78, kn_79, kn_80, kn_81, kn_82, kn_83, ln_57, ln_58, ln_59, ln_60, ln_61, ln_62, ln_63, ln_64, ln_65, ln_66, ln_67, ln_68, ln_69, ln_70, ln_71, ln_72, ln_73, ln_74, ln_75, ln_76, ln_77, ln_78, ln_79, ln_80, ln_81, ln_82, ln_83, va_rf_some, push_s, push_n, nb0, nb1, nbb, Nat.reduceLT, h3, hn, if_true, m_isHeld hR (show i < 16 by omega), mmd_57, mmd_up, hz, hix, hcl, hv, heq, b2i_0, h48, hc48, hy48, decide_eq_false_iff_not, nI_1]
    by_cases e : pl i = 30
    · rw [if_neg (by simpa using e), key y (by rw [if_pos e])]
      exact ih
    · rw [if_pos e, key (pl i) (by rw [if_neg e])]
      exact ih
theorem m_dropsAll_0 (hR : tRef h d R) (hW : mW I nr nt pl) (hn : anyb (fun k => pl k == 30) nt = false) : tEv E 183 0 [.ref 56, tm_dum] [] (mS I J R) Q = Q (some 17) (mS I J R) := by
  have hm := fun {Q} => m_manyAt (E := E) (Q := Q) (J := J) hR hW (p := 30) (by decide)
  rw [show nI 30 = 30 from rfl] at hm
  have he : mman pl nt 30 = 0 := by
    have := sm_ct (fun k => pl k == 30) nt
    rw [ct_0.mpr hn] at this
    rw [show (0 : Int32) = nI 0 from rfl, ← this, mman]
    congr 1
    funext k
    by_cases c : pl k = 30 <;> simp [c, b2i]
  simp only [e_183_0, e_183_1, e_183_3, e_183_6, e_183_9, e_183_11, rf_56_0 hR, rf_56_4 hR, rf_56_5 hR, rf_56_6 hR, rf_56_7 hR, rf_56_8 hR, rf_56_9 hR, rf_56_10 hR, rf_56_11 hR, rf_56_12 hR, rf_56_14 hR, rf_56_15 hR, rf_56_19 hR, rf_56_20 hR, rf_56_21 hR, rf_56_22 hR, rf_56_23 hR, rf_56_24 hR, rf_56_25 hR, rf_56_26 hR, rf_56_27 hR, rf_56_29 hR, rf_56_32 hR, rf_56_33 hR, rf_56_34 hR, rf_56_37 hR, rf_56_38 hR, kn_56, kn_57, kn_58, kn_59, kn_60, kn_61, kn_62, kn_63, kn_64, kn_65, kn_66, kn_67, kn_68, kn_69, kn_70, kn_71, kn_72, kn_73, kn_74, kn_75, kn_76, kn_77, kn_78, kn_79, kn_80, kn_81, kn_82, kn_83, ln_57, ln_58, ln_59, ln_60, ln_61, ln_62, ln_63, ln_64, ln_65, ln_66, ln_67, ln_68, ln_69, ln_70, ln_71, ln_72, ln_73, ln_74, ln_75, ln_76, ln_77, ln_78, ln_79, ln_80, ln_81, ln_82, ln_83, va_rf_some, push_s, push_n, nb0, nb1, nbb, Nat.reduceLT, hm, he, reduceIte]
theorem m_dropsAll_1 (hR : tRef h d R) (hW : mW I nr nt pl) (hY : mY I nr nt y) {u : Nat} (hu : u ≤ 8) (h1 : I 56 1 = nI u) (hn : anyb (fun k => pl k == 30) nt = true) : tEv E 183 0 [.ref 56, tm_dum] [] (mS I J R) Q = Q (some 0) (mS (mfin I u (mturn (pF (mmind (I 57) u) (drp pl y nt) nt) nt)) J R) := by
  have h16 := hW.2.2.2.1
  have hm := fun {Q} => m_manyAt (E := E) (Q := Q) (J := J) hR hW (p := 30) (by decide)
  rw [show nI 30 = 30 from rfl] at hm
  have hle := ct_le (fun k => pl k == 30) nt
  have he : (mman pl nt 30 = 0) = False := eq_false (fun e => by
    have := sm_ct (fun k => pl k == 30) nt
    have e2 : mman pl nt 30 = nI (ct (fun k => pl k == 30) nt) := by
      rw [← this, mman]
      congr 1
      funext k
      by_cases c : pl k = 30 <;> simp [c, b2i]
    rw [e2] at e
    have e' := (nI_eq (b := 0) (by omega) (by omega)).mp e
    rw [ct_0.mp e'] at hn
    cases hn)
  have hmi := fun {Q} => m_mindsD (E := E) (Q := Q) (J := J) (I := I) hR hu h1
  have htu := fun {F Q} => m_turnsD (E := E) (Q := Q) (J := J) (u := u) (F := F) (I := I) (nt := nt) hR hW.2.1 h16
  have hl := fun {Q} => m_dropsAll_loop (E := E) (Q := Q) (J := J) (u := u) hR hW hY (f := mmind (I 57) u) (fun q hq => mmind_lo _ hq) nt 0 (by omega)
  have h0 : pF (mmind (I 57) u) (drp pl y 0) nt = mmind (I 57) u := pF_self (fun t ht => by
    rw [mmind_lo _ (by omega), (hW.2.2.2.2.1 t ht).1, drp, if_neg (by omega)])
  rw [h0, show nI 0 = (0 : Int32) from rfl] at hl
  simp only [e_183_0, e_183_1, e_183_3, e_183_6, e_183_9, e_183_11, e_183_12, e_183_13, e_183_16, e_183_17, rf_56_0 hR, rf_56_4 hR, rf_56_5 hR, rf_56_6 hR, rf_56_7 hR, rf_56_8 hR, rf_56_9 hR, rf_56_10 hR, rf_56_11 hR, rf_56_12 hR, rf_56_14 hR, rf_56_15 hR, rf_56_19 hR, rf_56_20 hR, rf_56_21 hR, rf_56_22 hR, rf_56_23 hR, rf_56_24 hR, rf_56_25 hR, rf_56_26 hR, rf_56_27 hR, rf_56_29 hR, rf_56_32 hR, rf_56_33 hR, rf_56_34 hR, rf_56_37 hR, rf_56_38 hR, kn_56, kn_57, kn_58, kn_59, kn_60, kn_61, kn_62, kn_63, kn_64, kn_65, kn_66, kn_67, kn_68, kn_69, kn_70, kn_71, kn_72, kn_73, kn_74, kn_75, kn_76, kn_77, kn_78, kn_79, kn_80, kn_81, kn_82, kn_83, ln_57, ln_58, ln_59, ln_60, ln_61, ln_62, ln_63, ln_64, ln_65, ln_66, ln_67, ln_68, ln_69, ln_70, ln_71, ln_72, ln_73, ln_74, ln_75, ln_76, ln_77, ln_78, ln_79, ln_80, ln_81, ln_82, ln_83, va_rf_some, push_s, push_n, nb0, nb1, nbb, Nat.reduceLT, hm, he, if_false, hmi, hl]
  simp only [e_183_66, e_183_67, e_183_70, rf_56_0 hR, rf_56_4 hR, rf_56_5 hR, rf_56_6 hR, rf_56_7 hR, rf_56_8 hR, rf_56_9 hR, rf_56_10 hR, rf_56_11 hR, rf_56_12 hR, rf_56_14 hR, rf_56_15 hR, rf_56_19 hR, rf_56_20 hR, rf_56_21 hR, rf_56_22 hR, rf_56_23 hR, rf_56_24 hR, rf_56_25 hR, rf_56_26 hR, rf_56_27 hR, rf_56_29 hR, rf_56_32 hR, rf_56_33 hR, rf_56_34 hR, rf_56_37 hR, rf_56_38 hR, kn_56, kn_57, kn_58, kn_59, kn_60, kn_61, kn_62, kn_63, kn_64, kn_65, kn_66, kn_67, kn_68, kn_69, kn_70, kn_71, kn_72, kn_73, kn_74, kn_75, kn_76, kn_77, kn_78, kn_79, kn_80, kn_81, kn_82, kn_83, ln_57, ln_58, ln_59, ln_60, ln_61, ln_62, ln_63, ln_64, ln_65, ln_66, ln_67, ln_68, ln_69, ln_70, ln_71, ln_72, ln_73, ln_74, ln_75, ln_76, ln_77, ln_78, ln_79, ln_80, ln_81, ln_82, ln_83, va_rf_some, push_s, push_n, nb0, nb1, nbb, Nat.reduceLT, htu]
theorem mseen_cong {I' : Nat → Nat → Int32} (hW : mW I nr nt pl) (h2 : I' 62 = I 62) (h8 : I' 58 = I 58) (h5 : I' 65 = I 65) (h7 : ∀ t, t < 16 → I' 57 (16 + t) = I 57 (16 + t)) {t : Nat} (ht : t < nt) : mseen I' pl nt y t = mseen I pl nt y t := by
  have h16 := hW.2.2.2.1
  have e1 : ∀ k, k < 16 → mshut I' k = mshut I k := fun k hk => by unfold mshut mcl; rw [h2, h7 k hk]
  have e2 : ∀ k, hid pl (mshut I') k = hid pl (mshut I) k := fun k => by
    cases c : hid pl (mshut I) k with
    | true =>
      obtain ⟨i, a, b, c⟩ := hid_iff.mp c
      have := of_decide_eq_true b
      exact hid_iff.mpr ⟨i, a, b, by rw [e1 _ (by omega)]; exact c⟩
    | false =>
      cases c' : hid pl (mshut I') k with
      | false => rfl
      | true =>
        obtain ⟨i, a, b, c'⟩ := hid_iff.mp c'
        have := of_decide_eq_true b
        rw [e1 _ (by omega)] at c'
        rw [hid_iff.mpr ⟨i, a, b, c'⟩] at c
        cases c
  have e3 : ∀ r k, outb pl (mshut I') y r k = outb pl (mshut I) y r k := fun r k => by unfold outb; rw [e2]
  have e4 : mlit I' pl nt y y = mlit I pl nt y y := by
    unfold mlit
    rw [h8]
    congr 1
    exact anyb_cong (fun k hk => by rw [e3, mon, mon, h7 k (by omega)])
  unfold mseen mdr
  rw [e4, e3, h5]
theorem m_looksRound_0 (hR : tRef h d R) (hW : mW I nr nt pl) (hY : mY I nr nt y) (hl : mlit I pl nt y y = false) : tEv E 184 0 [.ref 56] [] (mS I J R) Q = Q (some 5) (mS I J R) := by
  have h6 := hW.2.2.1
  have hy := hY.2.1
  have h48 : tm_inb 48 468 = true := by decide
  have hc48 : (48 : Int32).toNatClampNeg = 48 := by decide
  simp only [e_184_0, e_184_1, e_184_2, e_184_5, e_184_7, e_184_8, e_184_11, e_184_14, e_184_15, rf_56_0 hR, rf_56_4 hR, rf_56_5 hR, rf_56_6 hR, rf_56_7 hR, rf_56_8 hR, rf_56_9 hR, rf_56_10 hR, rf_56_11 hR, rf_56_12 hR, rf_56_14 hR, rf_56_15 hR, rf_56_19 hR, rf_56_20 hR, rf_56_21 hR, rf_56_22 hR, rf_56_23 hR, rf_56_24 hR, rf_56_25 hR, rf_56_26 hR, rf_56_27 hR, rf_56_29 hR, rf_56_32 hR, rf_56_33 hR, rf_56_34 hR, rf_56_37 hR, rf_56_38 hR, kn_56, kn_57, kn_58, kn_59, kn_60, kn_61, kn_62, kn_63, kn_64, kn_65, kn_66, kn_67, kn_68, kn_69, kn_70, kn_71, kn_72, kn_73, kn_74, kn_75, kn_76, kn_77, kn_78, kn_79, kn_80, kn_81, kn_82, kn_83, ln_57, ln_58, ln_59, ln_60, ln_61, ln_62, ln_63, ln_64, ln_65, ln_66, ln_67, ln_68, ln_69, ln_70, ln_71, ln_72, ln_73, ln_74, ln_75, ln_76, ln_77, ln_78, ln_79, ln_80, ln_81, ln_82, ln_83, va_rf_some, push_s, push_n, nb0, nb1, nbb, Nat.reduceLT, h48, hc48, hY.1, m_isLit hR hW hY (show y < 6 by omega), hl, b2i_0, if_true]
theorem m_looksRound_1 (hR : tRef h d R) (hW : mW I nr nt pl) (hY : mY I nr nt y) {u : Nat} (hu : u ≤ 8) (h1 : I 56 1 = nI u) (hl : mlit I pl nt y y = true) : tEv E 184 0 [.ref 56] [] (mS I J R) Q = Q (some 0) (mS (mfin I u (mturn (upd (mmind (I 57) u) 51 (nI (ct (mseen I pl nt y) nt))) nt)) J R) := by
  have h6 := hW.2.2.1
  have h16 := hW.2.2.2.1
  have hy := hY.2.1
  have h48 : tm_inb 48 468 = true := by decide
  have hc48 : (48 : Int32).toNatClampNeg = 48 := by decide
  have h51 : tm_inb 51 468 = true := by decide
  have hc51 : (51 : Int32).toNatClampNeg = 51 := by decide
  have hmi := fun {Q} => m_mindsD (E := E) (Q := Q) (J := J) (I := I) hR hu h1
  have htu := fun {F Q} => m_turnsD (E := E) (Q := Q) (J := J) (u := u) (F := F) (I := I) (nt := nt) hR hW.2.1 h16
  have hW2 : mW (mmd I u (mmind (I 57) u)) nr nt pl := mmd_W hW (fun t ht => mmind_lo _ (by omega))
  have hY2 : mY (mmd I u (mmind (I 57) u)) nr nt y := ⟨(mmind_lo _ (by decide)).trans hY.1, hY.2.1, hY.2.2.1, hY.2.2.2⟩
  have hs := fun {Q} => m_seen (E := E) (Q := Q) (J := J) hR hW2 hY2
  have he : msee (mmd I u (mmind (I 57) u)) pl nt y = so (mseen I pl nt y) nt := so_cong (fun t ht => mseen_cong (I := I) (I' := mmd I u (mmind (I 57) u)) hW rfl rfl rfl (fun k hk => mmind_lo _ (by omega)) ht)
  simp only [e_184_0, e_184_1, e_184_2, e_184_5, e_184_7, e_184_8, e_184_11, e_184_14, e_184_15, e_184_16, e_184_17, e_184_20, e_184_21, e_184_24, e_184_26, e_184_27, e_184_30, e_184_33, e_184_34, e_184_35, e_184_38, rf_56_0 hR, rf_56_4 hR, rf_56_5 hR, rf_56_6 hR, rf_56_7 hR, rf_56_8 hR, rf_56_9 hR, rf_56_10 hR, rf_56_11 hR, rf_56_12 hR, rf_56_14 hR, rf_56_15 hR, rf_56_19 hR, rf_56_20 hR, rf_56_21 hR, rf_56_22 hR, rf_56_23 hR, rf_56_24 hR, rf_56_25 hR, rf_56_26 hR, rf_56_27 hR, rf_56_29 hR, rf_56_32 hR, rf_56_33 hR, rf_56_34 hR, rf_56_37 hR, rf_56_38 hR, kn_56, kn_57, kn_58, kn_59, kn_60, kn_61, kn_62, kn_63, kn_64, kn_65, kn_66, kn_67, kn_68, kn_69, kn_70, kn_71, kn_72, kn_73, kn_74, kn_75, kn_76, kn_77, kn_78, kn_79, kn_80, kn_81, kn_82, kn_83, ln_57, ln_58, ln_59, ln_60, ln_61, ln_62, ln_63, ln_64, ln_65, ln_66, ln_67, ln_68, ln_69, ln_70, ln_71, ln_72, ln_73, ln_74, ln_75, ln_76, ln_77, ln_78, ln_79, ln_80, ln_81, ln_82, ln_83, va_rf_some, push_s, push_n, nb0, nb1, nbb, Nat.reduceLT, h48, hc48, hY.1, m_isLit hR hW hY (show y < 6 by omega), hl, b2i_0, Bool.true_eq_false, if_false, hmi, hs, he, m_ones, cnt_so h16, h51, hc51, mmd_57, mmd_up, htu]
end M9
