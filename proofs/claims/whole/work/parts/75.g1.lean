/-! ===== the class: strings; the word that stands between ===== -/
/-- the text in the class -/
def TXc (I : Nat → Nat → Int32) (n : Nat) (tc : Nat → Nat) : Prop := I 1 1 = nI n ∧ n ≤ 240 ∧ ∀ p, p < n → I 2 p = nI (tc p) ∧ 32 ≤ tc p ∧ tc p ≤ 126
def B2N : List Nat := tm_B2.map Int32.toNatClampNeg
def WL : List (List Nat) := [[98, 111, 120], [107, 101, 121], [108, 97, 109, 112], [99, 111, 105, 110], [98, 97, 103], [116, 97, 98, 108, 101], [99, 104, 101, 115, 116], [98, 111, 111, 107], [99, 117, 112], [114, 111, 112, 101], [98, 97, 108, 108], [100, 111, 111, 114], [114, 101, 100], [98, 108, 117, 101], [111, 108, 100], [110, 101, 119], [98, 105, 103], [115, 109, 97, 108, 108], [103, 111, 108, 100], [105, 114, 111, 110], [116, 97, 107, 101], [100, 114, 111, 112], [112, 117, 116], [111, 112, 101, 110], [99, 108, 111, 115, 101], [108, 111, 99, 107], [117, 110, 108, 111, 99, 107], [108, 105, 103, 104, 116], [100, 111, 117, 115, 101], [103, 111], [108, 111, 111, 107], [119, 97, 105, 116], [105, 110], [111, 110], [102, 114, 111, 109], [119, 105, 116, 104], [116, 104, 101], [105, 116], [97, 108, 108], [110], [115], [101], [119]]
def flatW : List (List Nat) → List Nat
  | [] => []
  | w :: ws => w ++ 32 :: flatW ws
theorem B2_flat : B2N = flatW WL := by decide +kernel
/-- how the class goes through its words -/
def cwf (tc : Nat → Nat) (k e : Nat) : List Nat → Nat → Nat → Bool → Int32
  | [], _, _, _ => -4
  | c :: cs, w, a, s => if c = 32 then (if (s && decide (a = e)) = true then nI w else cwf tc k e cs (w + 1) k true) else cwf tc k e cs w (a + 1) (s && (decide (a < e) && decide (tc a = c)))
/-- does a word stand from k to e -/
def wmt (tc : Nat → Nat) (k e : Nat) (w : List Nat) : Bool := decide (k + w.length = e) && (List.range w.length).all (fun i => decide (tc (k + i) = w.getD i 0))
def fsW (m : List Nat → Bool) : List (List Nat) → Nat → Int32
  | [], _ => -4
  | w :: ws, j => if m w = true then nI j else fsW m ws (j + 1)
theorem cwf_word (tc : Nat → Nat) (k e j : Nat) (rest : List Nat) : ∀ (w : List Nat) (a : Nat) (s : Bool), (∀ c, c ∈ w → c ≠ 32) → cwf tc k e (w ++ 32 :: rest) j a s = if (s && (decide (a + w.length = e) && (List.range w.length).all (fun i => decide (tc (a + i) = w.getD i 0)))) = true then nI j else cwf tc k e rest (j + 1) k true
  | [], a, s, _ => by
    show cwf tc k e (32 :: rest) j a s = _
    rw [cwf, if_pos rfl]
    simp
  | c :: w, a, s, h => by
    show cwf tc k e (c :: (w ++ 32 :: rest)) j a s = _
    rw [cwf, if_neg (h c List.mem_cons_self), cwf_word tc k e j rest w (a + 1) _ (fun c' h' => h c' (List.mem_cons_of_mem _ h'))]
    have e1 : (s && (decide (a < e) && decide (tc a = c)) && (decide (a + 1 + w.length = e) && (List.range w.length).all (fun i => decide (tc (a + 1 + i) = w.getD i 0)))) = (s && (decide (a + (c :: w).length = e) && (List.range (c :: w).length).all (fun i => decide (tc (a + i) = (c :: w).getD i 0)))) := by
      rw [Bool.eq_iff_iff]
      simp only [Bool.and_eq_true, decide_eq_true_eq, List.all_eq_true, List.mem_range, List.length_cons]
      constructor
      · rintro ⟨⟨h1, h2, h3⟩, h4, h5⟩
        refine ⟨h1, by omega, fun i hi => ?_⟩
        cases i with
        | zero => exact h3
        | succ i =>
          have := h5 i (by omega)
          rw [show a + (i + 1) = a + 1 + i by omega]
          exact this
      · rintro ⟨h1, h2, h3⟩
        refine ⟨⟨h1, by omega, h3 0 (by omega)⟩, by omega, fun i hi => ?_⟩
        have := h3 (i + 1) (by omega)
        rw [show a + (i + 1) = a + 1 + i by omega] at this
        exact this
    rw [e1]
theorem cwf_flat (tc : Nat → Nat) (k e : Nat) : ∀ (ws : List (List Nat)) (j : Nat), (∀ w, w ∈ ws → ∀ c, c ∈ w → c ≠ 32) → cwf tc k e (flatW ws) j k true = fsW (wmt tc k e) ws j
  | [], j, _ => rfl
  | w :: ws, j, h => by
    show cwf tc k e (w ++ 32 :: flatW ws) j k true = _
    rw [cwf_word tc k e j _ w k true (h w List.mem_cons_self), fsW, cwf_flat tc k e ws (j + 1) (fun w' h' => h w' (List.mem_cons_of_mem _ h')), Bool.true_and]
    rfl
theorem WL_ok : ∀ w, w ∈ WL → ∀ c, c ∈ w → c ≠ 32 := by decide
theorem cwf_B2 (tc : Nat → Nat) (k e : Nat) : cwf tc k e B2N 0 k true = fsW (wmt tc k e) WL 0 := by
  rw [B2_flat]
  exact cwf_flat tc k e WL 0 WL_ok
section G1
variable {E : tm_Env} {Q : Option Int32 → tm_St → Prop} {I : Nat → Nat → Int32} {J : Nat → Nat → Int64} {R : Nat → Nat → Option Nat} {h d : Nat} {n : Nat} {tc : Nat → Nat} {M : tm_Mem}
theorem len_sh : ∀ s, s < 3 → Int32.ofNat (tm_len.getD s 0) >>> ((0 : Int32) &&& 31) = nI (tm_len.getD s 0) := by decide
theorem c_strlen {s : Nat} (hs : s < 3) : tEv E 12 0 [.ref (1000 + s)] [] (M, 0, 0) Q = Q (some (nI (tm_len.getD s 0))) (M, 0, 0) := by
  have h0 : (1000 ≤ 1000 + s ∧ 1000 + s < 1003) = True := eq_true (by omega)
  have h1 : (1100 ≤ 1000 + s + 100 ∧ 1000 + s + 100 < 1103) = True := eq_true (by omega)
  have e0 : 1000 + s + 100 - 1100 = s := by omega
  have e1 := len_sh s hs
  have hn : narrow .byte (.int 0) = .int 0 := by decide
  simp only [e_12_0, e_12_1, e_12_4, e_12_5, e_12_6, e_12_9, e_12_10, e_11_0, e_11_3, e_11_6, e_11_7, e_11_10, e_11_13, e_11_14, va_rf_some, push_s, push_n, nb0, nb1, nbb, Nat.reduceLT, h0, h1, hn, e0, e1, show ((1 : Int32) = 0) = False from eq_false (by decide), if_false]
theorem c_strlen2 : tEv E 12 0 [.ref 1002] [] (M, 0, 0) Q = Q (some 192) (M, 0, 0) := c_strlen (s := 2) (by decide)
theorem c_strlen1 : tEv E 12 0 [.ref 1001] [] (M, 0, 0) Q = Q (some 109) (M, 0, 0) := c_strlen (s := 1) (by decide)
def chN (s i : Nat) : Nat := ((tm_byt.getD s []).getD i 0).toNatClampNeg
theorem ch_ok : ∀ s, s < 3 → ∀ i, i < tm_len.getD s 0 → ((((tm_byt.getD s []).getD i 0) &&& 255).toUInt32 % 65536).toInt32 = nI (chN s i) ∧ chN s i < 127 := by decide +kernel
theorem nar_char : ∀ i, i < 127 → narrow .char (.int (nI i)) = .int (nI i) := by decide
theorem c_charAt {s i : Nat} (hs : s < 3) (hi : i < tm_len.getD s 0) : tEv E 17 0 [.ref (1000 + s), .int (nI i)] [] (M, 0, 0) Q = Q (some (nI (chN s i))) (M, 0, 0) := by
  have hlen : tm_len.getD s 0 < 1000 := (by decide : ∀ s, s < 3 → tm_len.getD s 0 < 1000) s hs
  have h0 : (1000 ≤ 1000 + s ∧ 1000 + s < 1003) = True := eq_true (by omega)
  have h1 : (1100 ≤ 1000 + s + 100 ∧ 1000 + s + 100 < 1103) = True := eq_true (by omega)
  have e0 : 1000 + s + 100 - 1100 = s := by omega
  have hix := inb_nI (j := i) (n := tm_len.getD s 0) hi (by omega)
  have hcl := nI_cl (n := i) (by omega)
  have hnb : narrow .boolean (.int 1) = .int 1 := by decide
  obtain ⟨k1, k2⟩ := ch_ok s hs i hi
  have hnc := nar_char _ k2
  have l0 : (nI i < 0) = False := eq_false (nI_pos (by omega))
  have l1 : (nI i < Int32.ofNat (tm_len.getD s 0)) = True := eq_true (nI_lt (b := tm_len.getD s 0) hi (by omega))
  simp only [e_17_0, e_17_1, e_17_4, e_17_7, e_17_8, e_17_11, e_17_12, e_17_15, e_17_16, e_17_17, e_17_20, e_13_0, e_13_3, e_13_6, e_13_7, e_13_10, e_13_13, e_13_14, e_13_17, e_13_18, e_16_0, e_16_1, e_16_2, e_16_3, e_16_6, e_16_7, e_16_8, e_16_9, e_16_12, e_16_13, e_16_14, e_15_0, e_15_1, e_15_2, e_15_5, e_15_8, e_15_9, e_14_0, e_14_1, e_14_4, e_14_5, e_14_6, e_14_9, e_14_10, e_14_11, e_14_16, e_14_17, va_rf_some, push_s, push_n, nb0, nb1, nbb, Nat.reduceLT, h0, h1, hnb, e0, hix, hcl, k1, hnc, l0, l1, show ((1 : Int32) = 0) = False from eq_false (by decide), if_false, if_true]
theorem c_wordAt_loop (hR : tRef h d R) (hT : TXc I n tc) {k e : Nat} (hk : k ≤ n) (he : e ≤ n) : ∀ (L : List Nat) (i : Nat) (w a : Nat) (s : Bool) (l7 : Value), B2N.drop i = L → i ≤ 192 → w ≤ i → k ≤ a → a ≤ k + i → tEv E 70 11 [.ref 51, .int (nI k), .int (nI e), .int (nI w), .int (nI a), .int (b2i s), .int (nI i), l7] [] (mS I J R) Q = Q (some (cwf tc k e L w a s)) (mS I J R)
  | [], i, w, a, s, l7, hL, hi, hw, hka, hai => by
    have hlen : B2N.length = 192 := by decide +kernel
    have hi2 : i = 192 := by
      have := congrArg List.length hL
      rw [List.length_drop, hlen, List.length_nil] at this
      omega
    subst hi2
    have hn : (nI 192 < (192 : Int32)) = False := eq_false (by decide)
    rw [e_70_11]
    simp only [e_70_13, e_70_15, e_70_18, e_70_21, e_70_23, e_70_25, e_70_28, e_70_30, e_70_32, e_70_34, e_70_37, e_70_39, e_70_42, e_70_44, e_70_45, e_70_48, e_70_50, e_70_53, e_70_56, e_70_57, e_70_60, e_70_63, e_70_65, e_70_66, e_70_68, e_70_71, e_70_72, e_70_75, e_70_76, e_70_78, e_70_81, e_70_84, e_70_86, e_70_89, e_70_91, e_70_92, e_70_95, e_70_96, e_70_97, e_70_100, e_70_101, e_70_103, e_70_104, e_70_106, e_70_109, e_70_112, e_70_114, rf_0_0 hR, rf_0_1 hR, rf_0_2 hR, rf_0_3 hR, rf_0_4 hR, rf_0_5 hR, rf_0_6 hR, rf_1_0 hR, rf_3_0 hR, rf_3_2 hR, rf_4_3 hR, rf_4_4 hR, rf_4_5 hR, rf_4_6 hR, rf_4_7 hR, rf_4_8 hR, rf_4_9 hR, rf_12_1 hR, rf_13_3 hR, rf_13_4 hR, rf_13_5 hR, rf_13_6 hR, rf_13_7 hR, rf_13_8 hR, rf_13_9 hR, rf_21_0 hR, rf_21_1 hR, rf_24_0 hR, rf_25_0 hR, rf_26_0 hR, rf_26_1 hR, rf_26_2 hR, rf_26_3 hR, rf_26_4 hR, rf_26_5 hR, rf_26_6 hR, rf_26_7 hR, rf_27_0 hR, rf_27_1 hR, rf_30_0 hR, rf_30_1 hR, rf_33_0 hR, rf_33_1 hR, rf_36_0 hR, rf_36_1 hR, rf_39_0 hR, rf_39_1 hR, rf_42_0 hR, rf_42_1 hR, rf_45_0 hR, rf_45_1 hR, rf_48_0 hR, rf_48_1 hR, rf_51_0 hR, rf_51_1 hR, rf_51_6 hR, rf_51_7 hR, rf_h_3 hR, rf_d_3 hR, rf_h_4 hR, rf_d_4 hR, rf_h_5 hR, rf_d_5 hR, rf_h_6 hR, rf_d_6 hR, rf_h_7 hR, rf_d_7 hR, rf_h_8 hR, rf_d_8 hR, rf_h_9 hR, rf_d_9 hR, rf_12_0 hR, rf_3_1 hR, kn_0, kn_1, kn_2, kn_3, kn_4, kn_5, kn_6, kn_7, kn_8, kn_9, kn_10, kn_11, kn_12, kn_13, kn_14, kn_15, kn_16, kn_17, kn_18, kn_19, kn_20, kn_21, kn_22, kn_23, kn_24, kn_25, kn_26, kn_27, kn_28, kn_29, kn_30, kn_31, kn_32, kn_33, kn_34, kn_35, kn_36, kn_37, kn_38, kn_39, kn_40, kn_41, kn_42, kn_43, kn_44, kn_45, kn_46, kn_47, kn_48, kn_49, kn_50, kn_51, kn_52, kn_53, kn_54, kn_55, ln_2, ln_5, ln_6, ln_7, ln_8, ln_9, ln_10, ln_11, ln_14, ln_15, ln_16, ln_17, ln_18, ln_19, ln_20, ln_22, ln_23, ln_26, ln_28, ln_29, ln_31, ln_32, ln_34, ln_35, ln_37, ln_38, ln_40, ln_41, ln_43, ln_44, ln_46, ln_47, ln_49, ln_50, ln_52, kn_h hR, lt_h hR, kn_h1 hR, ln_h1 hR, lt_h1 hR, kn_h2 hR, ln_h2 hR, lt_h2 hR, kn_h3 hR, ln_h3 hR, lt_h3 hR, kn_h4 hR, ln_h4 hR, lt_h4 hR, kn_h5 hR, ln_h5 hR, lt_h5 hR, kn_h6 hR, ln_h6 hR, lt_h6 hR, kn_h7 hR, ln_h7 hR, lt_h7 hR, kn_d hR, lt_d hR, kn_d1 hR, ln_d1 hR, lt_d1 hR, kn_d2 hR, ln_d2 hR, lt_d2 hR, kn_d3 hR, ln_d3 hR, lt_d3 hR, kn_d4 hR, ln_d4 hR, lt_d4 hR, kn_d5 hR, ln_d5 hR, lt_d5 hR, kn_d6 hR, ln_d6 hR, lt_d6 hR, kn_d7 hR, ln_d7 hR, lt_d7 hR, va_rf_some, push_s, push_n, nb0, nb1, nbb, Nat.reduceLT, c_strlen2, Nat.reduceLeDiff, and_self, hn, if_false]
    rfl
  | c :: cs, i, w, a, s, l7, hL, hi, hw, hka, hai => by
    have hlen : B2N.length = 192 := by decide +kernel
    have hn2 := hT.2.1
    have hi2 : i < 192 := by
      rcases Nat.lt_or_ge i 192 with q | q
      · exact q
      · rw [List.drop_of_length_le (by omega)] at hL
        cases hL
    have hd := List.drop_eq_getElem_cons (l := B2N) (i := i) (by omega)
    rw [hL] at hd
    injection hd with hd1 hd2
    have hc : chN 2 i = c := by
      rw [hd1]
      exact (by decide +kernel : ∀ i (hi : i < 192), chN 2 i = B2N[i]'(by rw [show B2N.length = 192 from by decide +kernel]; exact hi)) i hi2
    have hn : (nI i < (192 : Int32)) = True := eq_true (nI_lt (b := 192) (by omega) (by omega))
    have hch := fun {Q} {M} => c_charAt (E := E) (Q := Q) (M := M) (s := 2) (i := i) (by decide) hi2
    rw [hc] at hch
    have hc127 : c < 127 := by rw [← hc]; exact (ch_ok 2 (by decide) i hi2).2
    have e32 : (nI c = 32) = (c = 32) := propext (nI_eq (b := 32) (by omega) (by omega))
    have ae : (nI a = nI e) = (a = e) := propext (nI_eq (by omega) (by omega))
    have ale : (nI a < nI e) = (a < e) := propext (nI_ltI (by omega) (by omega))
    have a240 : (nI a < 240) = (a < 240) := propext (nI_ltI (b := 240) (by omega) (by omega))
    have nI1 : ∀ x : Nat, nI x + 1 = nI (x + 1) := fun x => nI_1 x
    rw [e_70_11]
    by_cases c32 : c = 32
    · subst c32
      have st : cwf tc k e (32 :: cs) w a s = if (s && decide (a = e)) = true then nI w else cwf tc k e cs (w + 1) k true := by rw [cwf, if_pos rfl]
      rw [st]
      simp only [e_70_13, e_70_15, e_70_18, e_70_21, e_70_23, e_70_25, e_70_28, e_70_30, e_70_32, e_70_34, e_70_37, e_70_39, e_70_42, e_70_44, e_70_45, e_70_48, e_70_50, e_70_53, e_70_56, e_70_57, e_70_60, e_70_63, e_70_65, e_70_66, e_70_68, e_70_71, e_70_72, e_70_75, e_70_76, e_70_78, e_70_81, e_70_84, e_70_86, e_70_89, e_70_91, e_70_92, e_70_95, e_70_96, e_70_97, e_70_100, e_70_101, e_70_103, e_70_104, e_70_106, e_70_109, e_70_112, e_70_114, rf_0_0 hR, rf_0_1 hR, rf_0_2 hR, rf_0_3 hR, rf_0_4 hR, rf_0_5 hR, rf_0_6 hR, rf_1_0 hR, rf_3_0 hR, rf_3_2 hR, rf_4_3 hR, rf_4_4 hR, rf_4_5 hR, rf_4_6 hR, rf_4_7 hR, rf_4_8 hR, rf_4_9 hR, rf_12_1 hR, rf_13_3 hR, rf_13_4 hR, rf_13_5 hR, rf_13_6 hR, rf_13_7 hR, rf_13_8 hR, rf_13_9 hR, rf_21_0 hR, rf_21_1 hR, rf_24_0 hR, rf_25_0 hR, rf_26_0 hR, rf_26_1 hR, rf_26_2 hR, rf_26_3 hR, rf_26_4 hR, rf_26_5 hR, rf_26_6 hR, rf_26_7 hR, rf_27_0 hR, rf_27_1 hR, rf_30_0 hR, rf_30_1 hR, rf_33_0 hR, rf_33_1 hR, rf_36_0 hR, rf_36_1 hR, rf_39_0 hR, rf_39_1 hR, rf_42_0 hR, rf_42_1 hR, rf_45_0 hR, rf_45_1 hR, rf_48_0 hR, rf_48_1 hR, rf_51_0 hR, rf_51_1 hR, rf_51_6 hR, rf_51_7 hR, rf_h_3 hR, rf_d_3 hR, rf_h_4 hR, rf_d_4 hR, rf_h_5 hR, rf_d_5 hR, rf_h_6 hR, rf_d_6 hR, rf_h_7 hR, rf_d_7 hR, rf_h_8 hR, rf_d_8 hR, rf_h_9 hR, rf_d_9 hR, rf_12_0 hR, rf_3_1 hR, kn_0, kn_1, kn_2, kn_3, kn_4, kn_5, kn_6, kn_7, kn_8, kn_9, kn_10, kn_11, kn_12, kn_13, kn_14, kn_15, kn_16, kn_17, kn_18, kn_19, kn_20, kn_21, kn_22, kn_23, kn_24, kn_25, kn_26, kn_27, kn_28, kn_29, kn_30, kn_31, kn_32, kn_33, kn_34, kn_35, kn_36, kn_37, kn_38, kn_39, kn_40, kn_41, kn_42, kn_43, kn_44, kn_45, kn_46, kn_47, kn_48, kn_49, kn_50, kn_51, kn_52, kn_53, kn_54, kn_55, ln_2, ln_5, ln_6, ln_7, ln_8, ln_9, ln_10, ln_11, ln_14, ln_15, ln_16, ln_17, ln_18, ln_19, ln_20, ln_22, ln_23, ln_26, ln_28, ln_29, ln_31, ln_32, ln_34, ln_35, ln_37, ln_38, ln_40, ln_41, ln_43, ln_44, ln_46, ln_47, ln_49, ln_50, ln_52, kn_h hR, lt_h hR, kn_h1 hR, ln_h1 hR, lt_h1 hR, kn_h2 hR, ln_h2 hR, lt_h2 hR, kn_h3 hR, ln_h3 hR, lt_h3 hR, kn_h4 hR, ln_h4 hR, lt_h4 hR, kn_h5 hR, ln_h5 hR, lt_h5 hR, kn_h6 hR, ln_h6 hR, lt_h6 hR, kn_h7 hR, ln_h7 hR, lt_h7 hR, kn_d hR, lt_d hR, kn_d1 hR, ln_d1 hR, lt_d1 hR, kn_d2 hR, ln_d2 hR, lt_d2 hR, kn_d3 hR, ln_d3 hR, lt_d3 hR, kn_d4 hR, ln_d4 hR, lt_d4 hR, kn_d5 hR, ln_d5 hR, lt_d5 hR, kn_d6 hR, ln_d6 hR, lt_d6 hR, kn_d7 hR, ln_d7 hR, lt_d7 hR, va_rf_some, push_s, push_n, nb0, nb1, nbb, Nat.reduceLT, c_strlen2, Nat.reduceLeDiff, and_self, hn, if_true, hch, show (nI 32 = 32) = True from eq_true rfl, b2i_0, ae, nI1]
      have ih := c_wordAt_loop hR hT hk he cs (i + 1) (w + 1) k true (.int (nI 32)) hd2.symm (by omega) (by omega) (Nat.le_refl _) (by omega)
      rw [show b2i true = 1 from rfl] at ih
      cases s with
      | false =>
        rw [if_pos rfl, if_neg (by simp)]
        exact ih
      | true =>
        rw [if_neg (by decide)]
        by_cases q : a = e
        · rw [if_pos q, if_pos (by simp [q])]
        · rw [if_neg q, if_neg (by simp [q])]
          exact ih
    · have st : cwf tc k e (c :: cs) w a s = cwf tc k e cs w (a + 1) (s && (decide (a < e) && decide (tc a = c))) := by rw [cwf, if_neg c32]
      rw [st]
      have ih := fun s' => c_wordAt_loop hR hT hk he cs (i + 1) w (a + 1) s' (.int (nI c)) hd2.symm (by omega) (by omega) (by omega) (by omega)
      simp only [e_70_13, e_70_15, e_70_18, e_70_21, e_70_23, e_70_25, e_70_28, e_70_30, e_70_32, e_70_34, e_70_37, e_70_39, e_70_42, e_70_44, e_70_45, e_70_48, e_70_50, e_70_53, e_70_56, e_70_57, e_70_60, e_70_63, e_70_65, e_70_66, e_70_68, e_70_71, e_70_72, rf_0_0 hR, rf_0_1 hR, rf_0_2 hR, rf_0_3 hR, rf_0_4 hR, rf_0_5 hR, rf_0_6 hR, rf_1_0 hR, rf_3_0 hR, rf_3_2 hR, rf_4_3 hR, rf_4_4 hR, rf_4_5 hR, rf_4_6 hR, rf_4_7 hR, rf_4_8 hR, rf_4_9 hR, rf_12_1 hR, rf_13_3 hR, rf_13_4 hR, rf_13_5 hR, rf_13_6 hR, rf_13_7 hR, rf_13_8 hR, rf_13_9 hR, rf_21_0 hR, rf_21_1 hR, rf_24_0 hR, rf_25_0 hR, rf_26_0 hR, rf_26_1 hR, rf_26_2 hR, rf_26_3 hR, rf_26_4 hR, rf_26_5 hR, rf_26_6 hR, rf_26_7 hR, rf_27_0 hR, rf_27_1 hR, rf_30_0 hR, rf_30_1 hR, rf_33_0 hR, rf_33_1 hR, rf_36_0 hR, rf_36_1 hR, rf_39_0 hR, rf_39_1 hR, rf_42_0 hR, rf_42_1 hR, rf_45_0 hR, rf_45_1 hR, rf_48_0 hR, rf_48_1 hR, rf_51_0 hR, rf_51_1 hR, rf_51_6 hR, rf_51_7 hR, rf_h_3 hR, rf_d_3 hR, rf_h_4 hR, rf_d_4 hR, rf_h_5 hR, rf_d_5 hR, rf_h_6 hR, rf_d_6 hR, rf_h_7 hR, rf_d_7 hR, rf_h_8 hR, rf_d_8 hR, rf_h_9 hR, rf_d_9 hR, rf_12_0 hR, rf_3_1 hR, kn_0, kn_1, kn_2, kn_3, kn_4, kn_5, kn_6, kn_7, kn_8, kn_9, kn_10, kn_11, kn_12, kn_13, kn_14, kn_15, kn_16, kn_17, kn_18, kn_19, kn_20, kn_21, kn_22, kn_23, kn_24, kn_25, kn_26, kn_27, kn_28, kn_29, kn_30, kn_31, kn_32, kn_33, kn_34, kn_35, kn_36, kn_37, kn_38, kn_39, kn_40, kn_41, kn_42, kn_43, kn_44, kn_45, kn_46, kn_47, kn_48, kn_49, kn_50, kn_51, kn_52, kn_53, kn_54, kn_55, ln_2, ln_5, ln_6, ln_7, ln_8, ln_9, ln_10, ln_11, ln_14, ln_15, ln_16, ln_17, ln_18, ln_19, ln_20, ln_22, ln_23, ln_26, ln_28, ln_29, ln_31, ln_32, ln_34, ln_35, ln_37, ln_38, ln_40, ln_41, ln_43, ln_44, ln_46, ln_47, ln_49, ln_50, ln_52, kn_h hR, lt_h hR, kn_h1 hR, ln_h1 hR, lt_h1 hR, kn_h2 hR, ln_h2 hR, lt_h2 hR, kn_h3 hR, ln_h3 hR, lt_h3 hR, kn_h4 hR, ln_h4 hR, lt_h4 hR, kn_h5 hR, ln_h5 hR, lt_h5 hR, kn_h6 hR, ln_h6 hR, lt_h6 hR, kn_h7 hR, ln_h7 hR, lt_h7 hR, kn_d hR, lt_d hR, kn_d1 hR, ln_d1 hR, lt_d1 hR, kn_d2 hR, ln_d2 hR, lt_d2 hR, kn_d3 hR, ln_d3 hR, lt_d3 hR, kn_d4 hR, ln_d4 hR, lt_d4 hR, kn_d5 hR, ln_d5 hR, lt_d5 hR, kn_d6 hR, ln_d6 hR, lt_d6 hR, kn_d7 hR, ln_d7 hR, lt_d7 hR, va_rf_some, push_s, push_n, nb0, nb1, nbb, Nat.reduceLT, c_strlen2, Nat.reduceLeDiff, and_self, hn, if_true, hch, e32, c32, if_false, b2i_0, ale, a240]
      cases s with
      | false =>
        rw [if_pos rfl]
        simp only [e_70_75, e_70_76, e_70_78, e_70_81, e_70_84, e_70_86, e_70_89, e_70_91, e_70_92, e_70_95, e_70_96, e_70_97, e_70_100, e_70_101, e_70_103, e_70_104, e_70_106, e_70_109, nI1]
        exact ih false
      | true =>
        rw [if_neg (by decide)]
        by_cases q : a < e
        · have hix := inb_nI (j := a) (n := 240) (by omega) (by decide)
          have hcl := nI_cl (n := a) (by omega)
          have htc := hT.2.2 a (by omega)
          have etc : (nI (tc a) = nI c) = (tc a = c) := propext (nI_eq (by omega) (by omega))
          rw [if_pos q, if_pos (show a < 240 by omega)]
          simp only [e_70_56, e_70_57, e_70_60, e_70_63, e_70_65, e_70_66, e_70_68, e_70_71, e_70_72, e_70_75, e_70_76, e_70_78, e_70_81, e_70_84, e_70_86, e_70_89, e_70_91, e_70_92, e_70_95, e_70_96, e_70_97, e_70_100, e_70_101, e_70_103, e_70_104, e_70_106, e_70_109, rf_0_0 hR, rf_0_1 hR, rf_0_2 hR, rf_0_3 hR, rf_0_4 hR, rf_0_5 hR, rf_0_6 hR, rf_1_0 hR, rf_3_0 hR, rf_3_2 hR, rf_4_3 hR, rf_4_4 hR, rf_4_5 hR, rf_4_6 hR, rf_4_7 hR, rf_4_8 hR, rf_4_9 hR, rf_12_1 hR, rf_13_3 hR, rf_13_4 hR, rf_13_5 hR, rf_13_6 hR, rf_13_7 hR, rf_13_8 hR, rf_13_9 hR, rf_21_0 hR, rf_21_1 hR, rf_24_0 hR, rf_25_0 hR, rf_26_0 hR, rf_26_1 hR, rf_26_2 hR, rf_26_3 hR, rf_26_4 hR, rf_26_5 hR, rf_26_6 hR, rf_26_7 hR, rf_27_0 hR, rf_27_1 hR, rf_30_0 hR, rf_30_1 hR, rf_33_0 hR, rf_33_1 hR, rf_36_0 hR, rf_36_1 hR, rf_39_0 hR, rf_39_1 hR, rf_42_0 hR, rf_42_1 hR, rf_45_0 hR, rf_45_1 hR, rf_48_0 hR, rf_48_1 hR, rf_51_0 hR, rf_51_1 hR, rf_51_6 hR, rf_51_7 hR, rf_h_3 hR, rf_d_3 hR, rf_h_4 hR, rf_d_4 hR, rf_h_5 hR, rf_d_5 hR, rf_h_6 hR, rf_d_6 hR, rf_h_7 hR, rf_d_7 hR, rf_h_8 hR, rf_d_8 hR, rf_h_9 hR, rf_d_9 hR, rf_12_0 hR, rf_3_1 hR, kn_0, kn_1, kn_2, kn_3, kn_4, kn_5, kn_6, kn_7, kn_8, kn_9, kn_10, kn_11, kn_12, kn_13, kn_14, kn_15, kn_16, kn_17, kn_18, kn_19, kn_20, kn_21, kn_22, kn_23, kn_24, kn_25, kn_26, kn_27, kn_28, kn_29, kn_30, kn_31, kn_32, kn_33, kn_34, kn_35, kn_36, kn_37, kn_38, kn_39, kn_40, kn_41, kn_42, kn_43, kn_44, kn_45, kn_46, kn_47, kn_48, kn_49, kn_50, kn_51, kn_52, kn_53, kn_54, kn_55, ln_2, ln_5, ln_6, ln_7, ln_8, ln_9, ln_10, ln_11, ln_14, ln_15, ln_16, ln_17, ln_18, ln_19, ln_20, ln_22, ln_23, ln_26, ln_28, ln_29, ln_31, ln_32, ln_34, ln_35, ln_37, ln_38, ln_40, ln_41, ln_43, ln_44, ln_46, ln_47, ln_49, ln_50, ln_52, kn_h hR, lt_h hR, kn_h1 hR, ln_h1 hR, lt_h1 hR, kn_h2 hR, ln_h2 hR, lt_h2 hR, kn_h3 hR, ln_h3 hR, lt_h3 hR, kn_h4 hR, ln_h4 hR, lt_h4 hR, kn_h5 hR, ln_h5 hR, lt_h5 hR, kn_h6 hR, ln_h6 hR, lt_h6 hR, kn_h7 hR, ln_h7 hR, lt_h7 hR, kn_d hR, lt_d hR, kn_d1 hR, ln_d1 hR, lt_d1 hR, kn_d2 hR, ln_d2 hR, lt_d2 hR, kn_d3 hR, ln_d3 hR, lt_d3 hR, kn_d4 hR, ln_d4 hR, lt_d4 hR, kn_d5 hR, ln_d5 hR, lt_d5 hR, kn_d6 hR, ln_d6 hR, lt_d6 hR, kn_d7 hR, ln_d7 hR, lt_d7 hR, va_rf_some, push_s, push_n, nb0, nb1, nbb, Nat.reduceLT, hix, hcl, htc.1, etc, nI1]
          by_cases q2 : tc a = c
          · rw [if_pos q2, decide_eq_true q, decide_eq_true q2]
            exact ih true
          · rw [if_neg q2, decide_eq_true q, decide_eq_false q2]
            exact ih false
        · rw [if_neg q, decide_eq_false q]
          simp only [e_70_75, e_70_76, e_70_78, e_70_81, e_70_84, e_70_86, e_70_89, e_70_91, e_70_92, e_70_95, e_70_96, e_70_97, e_70_100, e_70_101, e_70_103, e_70_104, e_70_106, e_70_109, nI1]
          exact ih false
theorem c_wordAt (hR : tRef h d R) (hT : TXc I n tc) {k e : Nat} (hk : k ≤ n) (he : e ≤ n) : tEv E 70 0 [.ref 51, .int (nI k), .int (nI e), tm_dum, tm_dum, tm_dum, tm_dum, tm_dum] [] (mS I J R) Q = Q (some (fsW (wmt tc k e) WL 0)) (mS I J R) := by
  have hl := c_wordAt_loop (E := E) (Q := Q) (J := J) hR hT hk he B2N 0 0 k true tm_dum rfl (by decide) (Nat.zero_le _) (Nat.le_refl _) (by omega)
  rw [cwf_B2, show b2i true = 1 from rfl] at hl
  simp only [e_70_0, e_70_1, e_70_2, e_70_3, e_70_5, e_70_6, e_70_8, e_70_9, rf_0_0 hR, rf_0_1 hR, rf_0_2 hR, rf_0_3 hR, rf_0_4 hR, rf_0_5 hR, rf_0_6 hR, rf_1_0 hR, rf_3_0 hR, rf_3_2 hR, rf_4_3 hR, rf_4_4 hR, rf_4_5 hR, rf_4_6 hR, rf_4_7 hR, rf_4_8 hR, rf_4_9 hR, rf_12_1 hR, rf_13_3 hR, rf_13_4 hR, rf_13_5 hR, rf_13_6 hR, rf_13_7 hR, rf_13_8 hR, rf_13_9 hR, rf_21_0 hR, rf_21_1 hR, rf_24_0 hR, rf_25_0 hR, rf_26_0 hR, rf_26_1 hR, rf_26_2 hR, rf_26_3 hR, rf_26_4 hR, rf_26_5 hR, rf_26_6 hR, rf_26_7 hR, rf_27_0 hR, rf_27_1 hR, rf_30_0 hR, rf_30_1 hR, rf_33_0 hR, rf_33_1 hR, rf_36_0 hR, rf_36_1 hR, rf_39_0 hR, rf_39_1 hR, rf_42_0 hR, rf_42_1 hR, rf_45_0 hR, rf_45_1 hR, rf_48_0 hR, rf_48_1 hR, rf_51_0 hR, rf_51_1 hR, rf_51_6 hR, rf_51_7 hR, rf_h_3 hR, rf_d_3 hR, rf_h_4 hR, rf_d_4 hR, rf_h_5 hR, rf_d_5 hR, rf_h_6 hR, rf_d_6 hR, rf_h_7 hR, rf_d_7 hR, rf_h_8 hR, rf_d_8 hR, rf_h_9 hR, rf_d_9 hR, rf_12_0 hR, rf_3_1 hR, kn_0, kn_1, kn_2, kn_3, kn_4, kn_5, kn_6, kn_7, kn_8, kn_9, kn_10, kn_11, kn_12, kn_13, kn_14, kn_15, kn_16, kn_17, kn_18, kn_19, kn_20, kn_21, kn_22, kn_23, kn_24, kn_25, kn_26, kn_27, kn_28, kn_29, kn_30, kn_31, kn_32, kn_33, kn_34, kn_35, kn_36, kn_37, kn_38, kn_39, kn_40, kn_41, kn_42, kn_43, kn_44, kn_45, kn_46, kn_47, kn_48, kn_49, kn_50, kn_51, kn_52, kn_53, kn_54, kn_55, ln_2, ln_5, ln_6, ln_7, ln_8, ln_9, ln_10, ln_11, ln_14, ln_15, ln_16, ln_17, ln_18, ln_19, ln_20, ln_22, ln_23, ln_26, ln_28, ln_29, ln_31, ln_32, ln_34, ln_35, ln_37, ln_38, ln_40, ln_41, ln_43, ln_44, ln_46, ln_47, ln_49, ln_50, ln_52, kn_h hR, lt_h hR, kn_h1 hR, ln_h1 hR, lt_h1 hR, kn_h2 hR, ln_h2 hR, lt_h2 hR, kn_h3 hR, ln_h3 hR, lt_h3 hR, kn_h4 hR, ln_h4 hR, lt_h4 hR, kn_h5 hR, ln_h5 hR, lt_h5 hR, kn_h6 hR, ln_h6 hR, lt_h6 hR, kn_h7 hR, ln_h7 hR, lt_h7 hR, kn_d hR, lt_d hR, kn_d1 hR, ln_d1 hR, lt_d1 hR, kn_d2 hR, ln_d2 hR, lt_d2 hR, kn_d3 hR, ln_d3 hR, lt_d3 hR, kn_d4 hR, ln_d4 hR, lt_d4 hR, kn_d5 hR, ln_d5 hR, lt_d5 hR, kn_d6 hR, ln_d6 hR, lt_d6 hR, kn_d7 hR, ln_d7 hR, lt_d7 hR, va_rf_some, push_s, push_n, nb0, nb1, nbb, Nat.reduceLT]
  exact hl
end G1
