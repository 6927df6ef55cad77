/-! ===== the class: phrases read ===== -/
def hn (I : Nat → Nat → Int32) (a : Nat) : Nat → Nat → Int32 := va_up I 51 (upd (I 51) 3 (nI a))
def acI (I : Nat → Nat → Int32) (v : Int32) : Nat → Nat → Int32 := va_up I 51 (upd (I 51) 4 v)
def sdI (I : Nat → Nat → Int32) (v : Int32) : Nat → Nat → Int32 := va_up I 51 (upd (I 51) 5 v)
section G3a
variable {I : Nat → Nat → Int32} {a b : Nat} {v : Int32} {f : Nat → Int32}
theorem hn_3 : hn I a 51 3 = nI a := Eq.trans rfl rfl
theorem hn_2 : hn I a 51 2 = I 51 2 := Eq.trans rfl rfl
theorem hn_4 : hn I a 51 4 = I 51 4 := Eq.trans rfl rfl
theorem hn_5 : hn I a 51 5 = I 51 5 := Eq.trans rfl rfl
theorem hn_52 : hn I a 52 = I 52 := Eq.trans rfl rfl
theorem hn_53 : hn I a 53 = I 53 := Eq.trans rfl rfl
theorem hn_54 : hn I a 54 = I 54 := Eq.trans rfl rfl
theorem hn_set : va_up (hn I a) 51 (upd (hn I a 51) 3 (nI b)) = hn I b := by
  unfold hn
  rw [vu_vu, vu_eq, upd_upd]
theorem hn_u53 : va_up (hn I a) 53 f = hn (va_up I 53 f) a := vu_comm _ (by decide) _ _
theorem hn_u54 : va_up (hn I a) 54 f = hn (va_up I 54 f) a := vu_comm _ (by decide) _ _
theorem upd_comm {g : Nat → Int32} {k j : Nat} (h : k ≠ j) (x y : Int32) : upd (upd g k x) j y = upd (upd g j y) k x := by
  funext q
  rw [ud, ud, ud, ud]
  by_cases e1 : q = j
  · rw [if_pos e1, if_neg (by omega), if_pos e1]
  · rw [if_neg e1, if_neg e1]
theorem hn_s4 : va_up (hn I a) 51 (upd (hn I a 51) 4 v) = hn (acI I v) a := by
  unfold hn acI
  rw [vu_vu, vu_eq, vu_vu, vu_eq, upd_comm (by decide)]
theorem hn_s5 : va_up (hn I a) 51 (upd (hn I a 51) 5 v) = hn (sdI I v) a := by
  unfold hn sdI
  rw [vu_vu, vu_eq, vu_vu, vu_eq, upd_comm (by decide)]
end G3a
/-- the words in the class -/
def WSc (I : Nat → Nat → Int32) (c : Nat) (wn : Nat → Nat) : Prop := I 51 2 = nI c ∧ c ≤ 120 ∧ ∀ k, k < c → I 52 k = nI (wn k) ∧ wn k < 43
def frP (I I' : Nat → Nat → Int32) : Prop := (∀ k, k ≠ 51 → k ≠ 53 → k ≠ 54 → I' k = I k) ∧ ∀ k, k < 3 → I' 51 k = I 51 k
theorem frP_refl (I : Nat → Nat → Int32) : frP I I := ⟨fun _ _ _ _ => rfl, fun _ _ => rfl⟩
theorem frP_trans {I I' I'' : Nat → Nat → Int32} (a : frP I I') (b : frP I' I'') : frP I I'' := ⟨fun k h1 h2 h3 => (b.1 k h1 h2 h3).trans (a.1 k h1 h2 h3), fun k h => (b.2 k h).trans (a.2 k h)⟩
theorem frP_51 {I I' : Nat → Nat → Int32} (h : frP I I') {k : Nat} {v : Int32} (hk : 3 ≤ k) : frP I (va_up I' 51 (upd (I' 51) k v)) :=
  ⟨fun j h1 h2 h3 => by rw [vu, if_neg h1]; exact h.1 j h1 h2 h3, fun j hj => by rw [vu_eq, ud, if_neg (by omega)]; exact h.2 j hj⟩
theorem frP_ph {I I' : Nat → Nat → Int32} (h : frP I I') {k : Nat} {f : Nat → Int32} (hk : k = 53 ∨ k = 54) : frP I (va_up I' k f) :=
  ⟨fun j h1 h2 h3 => by rw [vu, if_neg (by omega)]; exact h.1 j h1 h2 h3, fun j hj => by rw [vu, if_neg (by omega)]; exact h.2 j hj⟩
theorem WSc_fr {I I' : Nat → Nat → Int32} {c : Nat} {wn : Nat → Nat} (f : frP I I') (h : WSc I c wn) : WSc I' c wn :=
  ⟨(f.2 2 (by decide)).trans h.1, h.2.1, fun k hk => by rw [f.1 52 (by decide) (by decide) (by decide)]; exact h.2.2 k hk⟩
/-- what a phrase leaves in its cell -/
def cphS (I : Nat → Nat → Int32) (cell c : Nat) (wn : Nat → Nat) (a : Nat) : Nat → Nat → Int32 := if wo c wn a = 37 then va_up I cell (upd (I cell) 0 1) else va_up I cell (upd (upd (upd (I cell) 0 0) 2 (sAv c wn a)) 1 (sNv c wn a))
def CPH (I : Nat → Nat → Int32) (cell c : Nat) (wn : Nat → Nat) (a : Nat) : Prop := (wo c wn a = 37 → I cell 0 = 1) ∧ (wo c wn a ≠ 37 → I cell 0 = 0 ∧ I cell 1 = sNv c wn a ∧ I cell 2 = sAv c wn a)
theorem frP_cph {I I' : Nat → Nat → Int32} (h : frP I I') {cell c a : Nat} {wn : Nat → Nat} (hk : cell = 53 ∨ cell = 54) : frP I (cphS I' cell c wn a) := by
  unfold cphS
  split
  · exact frP_ph h hk
  · exact frP_ph h hk
theorem CPH_is {I : Nat → Nat → Int32} {cell c p a : Nat} {wn : Nat → Nat} (hk : cell = 53 ∨ cell = 54) : CPH (hn (cphS I cell c wn a) p) cell c wn a := by
  have e : hn (cphS I cell c wn a) p cell = cphS I cell c wn a cell := by
    unfold hn
    rw [vu, if_neg (by omega)]
  refine ⟨fun q => ?_, fun q => ?_⟩
  · rw [e, cphS, if_pos q, vu_eq, ud, if_pos rfl]
  · rw [e, cphS, if_neg q, vu_eq]
    refine ⟨?_, ?_, ?_⟩ <;> simp only [ud, Nat.reduceEqDiff, if_false, if_true]
theorem CPH_53 {I : Nat → Nat → Int32} {c p a b : Nat} {wn : Nat → Nat} : CPH (hn (cphS (cphS I 53 c wn a) 54 c wn b) p) 53 c wn a := by
  have e : hn (cphS (cphS I 53 c wn a) 54 c wn b) p 53 = hn (cphS I 53 c wn a) p 53 := by
    rw [hn_53, hn_53]
    generalize cphS I 53 c wn a = B
    unfold cphS
    split
    · rw [vu, if_neg (by decide)]
    · rw [vu, if_neg (by decide)]
  unfold CPH
  rw [e]
  exact CPH_is (Or.inl rfl)
theorem CPH_ac {I : Nat → Nat → Int32} {cell c p a : Nat} {wn : Nat → Nat} {v : Int32} (hk : cell = 53 ∨ cell = 54) (h : CPH (hn I p) cell c wn a) : CPH (hn (acI I v) p) cell c wn a := by
  have e : hn (acI I v) p cell = hn I p cell := by
    unfold hn acI
    rw [vu, if_neg (by omega), vu, if_neg (by omega), vu, if_neg (by omega)]
  unfold CPH at h ⊢
  rw [e]
  exact h
section G3
variable {E : tm_Env} {Q : Option Int32 → tm_St → Prop} {I : Nat → Nat → Int32} {J : Nat → Nat → Int64} {R : Nat → Nat → Option Nat} {h d : Nat} {n a c : Nat} {tc wn : Nat → Nat}
theorem wv_cs (hS : WSc I c wn) (k : Nat) : (wo c wn k < 43 ∧ wv c wn k = nI (wo c wn k) ∧ k < c) ∨ (wo c wn k = 99 ∧ wv c wn k = -4 ∧ c ≤ k) := by
  unfold wo wv
  by_cases q : k < c
  · rw [if_pos q, if_pos q]
    exact Or.inl ⟨(hS.2.2 k q).2, rfl, q⟩
  · rw [if_neg q, if_neg q]
    exact Or.inr ⟨rfl, rfl, by omega⟩
theorem c_peek (hR : tRef h d R) (hS : WSc I c wn) (ha : a < 1000) : tEv E 72 0 [.ref 51] [] (mS (hn I a) J R) Q = Q (some (wv c wn a)) (mS (hn I a) J R) := by
  have h120 := hS.2.1
  have e1 : (nI a < nI c) = (a < c) := propext (nI_ltI (by omega) (by omega))
  simp only [e_72_0, e_72_1, e_72_4, e_72_5, e_72_8, e_72_11, e_72_12, e_72_15, e_72_16, e_72_19, e_72_20, e_72_23, e_72_24, e_72_27, e_72_28, e_72_31, e_72_32, e_72_35, e_72_37, rf_0_0 hR, rf_0_1 hR, rf_0_2 hR, rf_0_3 hR, rf_0_4 hR, rf_0_5 hR, rf_0_6 hR, rf_1_0 hR, rf_3_0 hR, rf_3_2 hR, rf_4_3 hR, rf_4_4 hR, rf_4_5 hR, rf_4_6 hR, rf_4_7 hR, rf_4_8 hR, rf_4_9 hR, rf_12_1 hR, rf_13_3 hR, rf_13_4 hR, rf_13_5 hR, rf_13_6 hR, rf_13_7 hR, rf_13_8 hR, rf_13_9 hR, rf_21_0 hR, rf_21_1 hR, rf_24_0 hR, rf_25_0 hR, rf_26_0 hR, rf_26_1 hR, rf_26_2 hR, rf_26_3 hR, rf_26_4 hR, rf_26_5 hR, rf_26_6 hR, rf_26_7 hR, rf_27_0 hR, rf_27_1 hR, rf_30_0 hR, rf_30_1 hR, rf_33_0 hR, rf_33_1 hR, rf_36_0 hR, rf_36_1 hR, rf_39_0 hR, rf_39_1 hR, rf_42_0 hR, rf_42_1 hR, rf_45_0 hR, rf_45_1 hR, rf_48_0 hR, rf_48_1 hR, rf_51_0 hR, rf_51_1 hR, rf_51_6 hR, rf_51_7 hR, rf_h_3 hR, rf_d_3 hR, rf_h_4 hR, rf_d_4 hR, rf_h_5 hR, rf_d_5 hR, rf_h_6 hR, rf_d_6 hR, rf_h_7 hR, rf_d_7 hR, rf_h_8 hR, rf_d_8 hR, rf_h_9 hR, rf_d_9 hR, rf_12_0 hR, rf_3_1 hR, kn_0, kn_1, kn_2, kn_3, kn_4, kn_5, kn_6, kn_7, kn_8, kn_9, kn_10, kn_11, kn_12, kn_13, kn_14, kn_15, kn_16, kn_17, kn_18, kn_19, kn_20, kn_21, kn_22, kn_23, kn_24, kn_25, kn_26, kn_27, kn_28, kn_29, kn_30, kn_31, kn_32, kn_33, kn_34, kn_35, kn_36, kn_37, kn_38, kn_39, kn_40, kn_41, kn_42, kn_43, kn_44, kn_45, kn_46, kn_47, kn_48, kn_49, kn_50, kn_51, kn_52, kn_53, kn_54, kn_55, ln_2, ln_5, ln_6, ln_7, ln_8, ln_9, ln_10, ln_11, ln_14, ln_15, ln_16, ln_17, ln_18, ln_19, ln_20, ln_22, ln_23, ln_26, ln_28, ln_29, ln_31, ln_32, ln_34, ln_35, ln_37, ln_38, ln_40, ln_41, ln_43, ln_44, ln_46, ln_47, ln_49, ln_50, ln_52, kn_h hR, lt_h hR, kn_h1 hR, ln_h1 hR, lt_h1 hR, kn_h2 hR, ln_h2 hR, lt_h2 hR, kn_h3 hR, ln_h3 hR, lt_h3 hR, kn_h4 hR, ln_h4 hR, lt_h4 hR, kn_h5 hR, ln_h5 hR, lt_h5 hR, kn_h6 hR, ln_h6 hR, lt_h6 hR, kn_h7 hR, ln_h7 hR, lt_h7 hR, kn_d hR, lt_d hR, kn_d1 hR, ln_d1 hR, lt_d1 hR, kn_d2 hR, ln_d2 hR, lt_d2 hR, kn_d3 hR, ln_d3 hR, lt_d3 hR, kn_d4 hR, ln_d4 hR, lt_d4 hR, kn_d5 hR, ln_d5 hR, lt_d5 hR, kn_d6 hR, ln_d6 hR, lt_d6 hR, kn_d7 hR, ln_d7 hR, lt_d7 hR, va_rf_some, push_s, push_n, nb0, nb1, nbb, Nat.reduceLT, hn_3, hn_2, hS.1, e1, hn_52]
  unfold wv
  by_cases q : a < c
  · have hix := inb_nI (j := a) (n := 120) (by omega) (by decide)
    have hcl := nI_cl (n := a) (by omega)
    have e2 : (nI a < Int32.ofNat 120) = True := eq_true (nI_lt (b := 120) (by omega) (by omega))
    simp only [q, if_true, e_72_0, e_72_1, e_72_4, e_72_5, e_72_8, e_72_11, e_72_12, e_72_15, e_72_16, e_72_19, e_72_20, e_72_23, e_72_24, e_72_27, e_72_28, e_72_31, e_72_32, e_72_35, e_72_37, rf_0_0 hR, rf_0_1 hR, rf_0_2 hR, rf_0_3 hR, rf_0_4 hR, rf_0_5 hR, rf_0_6 hR, rf_1_0 hR, rf_3_0 hR, rf_3_2 hR, rf_4_3 hR, rf_4_4 hR, rf_4_5 hR, rf_4_6 hR, rf_4_7 hR, rf_4_8 hR, rf_4_9 hR, rf_12_1 hR, rf_13_3 hR, rf_13_4 hR, rf_13_5 hR, rf_13_6 hR, rf_13_7 hR, rf_13_8 hR, rf_13_9 hR, rf_21_0 hR, rf_21_1 hR, rf_24_0 hR, rf_25_0 hR, rf_26_0 hR, rf_26_1 hR, rf_26_2 hR, rf_26_3 hR, rf_26_4 hR, rf_26_5 hR, rf_26_6 hR, rf_26_7 hR, rf_27_0 hR, rf_27_1 hR, rf_30_0 hR, rf_30_1 hR, rf_33_0 hR, rf_33_1 hR, rf_36_0 hR, rf_36_1 hR, rf_39_0 hR, rf_39_1 hR, rf_42_0 hR, rf_42_1 hR, rf_45_0 hR, rf_45_1 hR, rf_48_0 hR, rf_48_1 hR, rf_51_0 hR, rf_51_1 hR, rf_51_6 hR, rf_51_7 hR, rf_h_3 hR, rf_d_3 hR, rf_h_4 hR, rf_d_4 hR, rf_h_5 hR, rf_d_5 hR, rf_h_6 hR, rf_d_6 hR, rf_h_7 hR, rf_d_7 hR, rf_h_8 hR, rf_d_8 hR, rf_h_9 hR, rf_d_9 hR, rf_12_0 hR, rf_3_1 hR, kn_0, kn_1, kn_2, kn_3, kn_4, kn_5, kn_6, kn_7, kn_8, kn_9, kn_10, kn_11, kn_12, kn_13, kn_14, kn_15, kn_16, kn_17, kn_18, kn_19, kn_20, kn_21, kn_22, kn_23, kn_24, kn_25, kn_26, kn_27, kn_28, kn_29, kn_30, kn_31, kn_32, kn_33, kn_34, kn_35, kn_36, kn_37, kn_38, kn_39, kn_40, kn_41, kn_42, kn_43, kn_44, kn_45, kn_46, kn_47, kn_48, kn_49, kn_50, kn_51, kn_52, kn_53, kn_54, kn_55, ln_2, ln_5, ln_6, ln_7, ln_8, ln_9, ln_10, ln_11, ln_14, ln_15, ln_16, ln_17, ln_18, ln_19, ln_20, ln_22, ln_23, ln_26, ln_28, ln_29, ln_31, ln_32, ln_34, ln_35, ln_37, ln_38, ln_40, ln_41, ln_43, ln_44, ln_46, ln_47, ln_49, ln_50, ln_52, kn_h hR, lt_h hR, kn_h1 hR, ln_h1 hR, lt_h1 hR, kn_h2 hR, ln_h2 hR, lt_h2 hR, kn_h3 hR, ln_h3 hR, lt_h3 hR, kn_h4 hR, ln_h4 hR, lt_h4 hR, kn_h5 hR, ln_h5 hR, lt_h5 hR, kn_h6 hR, ln_h6 hR, lt_h6 hR, kn_h7 hR, ln_h7 hR, lt_h7 hR, kn_d hR, lt_d hR, kn_d1 hR, ln_d1 hR, lt_d1 hR, kn_d2 hR, ln_d2 hR, lt_d2 hR, kn_d3 hR, ln_d3 hR, lt_d3 hR, kn_d4 hR, ln_d4 hR, lt_d4 hR, kn_d5 hR, ln_d5 hR, lt_d5 hR, kn_d6 hR, ln_d6 hR, lt_d6 hR, kn_d7 hR, ln_d7 hR, lt_d7 hR, va_rf_some, push_s, push_n, nb0, nb1, nbb, Nat.reduceLT, ln_52, e2, hix, hcl, hn_52, hn_3, (hS.2.2 a q).1]
  · simp only [q, if_false]
theorem c_skip (hR : tRef h d R) (hS : WSc I c wn) (ha : a < 900) {x : Nat} (hx : x < 43) : tEv E 74 0 [.ref 51, .int (nI x)] [] (mS (hn I a) J R) Q = Q (some (b2i (decide (wo c wn a = x)))) (mS (hn I (ow c wn x a)) J R) := by
  have hp := fun {Q} => c_peek (E := E) (Q := Q) (J := J) hR hS (show a < 1000 by omega)
  have e : (wv c wn a = nI x) = (wo c wn a = x) := by
    apply propext
    rcases wv_cs hS a with ⟨q1, q2, -⟩ | ⟨q1, q2, -⟩
    · rw [q2, nI_eq (by omega) (by omega)]
    · rw [q1, q2]
      exact ⟨fun e => absurd e.symm (nI_n4 (by omega)), fun e => by omega⟩
  simp only [e_74_0, e_74_1, e_74_4, e_74_5, e_74_8, e_74_9, e_74_10, e_74_11, e_74_12, e_74_15, e_74_16, e_74_17, e_74_20, e_74_21, rf_0_0 hR, rf_0_1 hR, rf_0_2 hR, rf_0_3 hR, rf_0_4 hR, rf_0_5 hR, rf_0_6 hR, rf_1_0 hR, rf_3_0 hR, rf_3_2 hR, rf_4_3 hR, rf_4_4 hR, rf_4_5 hR, rf_4_6 hR, rf_4_7 hR, rf_4_8 hR, rf_4_9 hR, rf_12_1 hR, rf_13_3 hR, rf_13_4 hR, rf_13_5 hR, rf_13_6 hR, rf_13_7 hR, rf_13_8 hR, rf_13_9 hR, rf_21_0 hR, rf_21_1 hR, rf_24_0 hR, rf_25_0 hR, rf_26_0 hR, rf_26_1 hR, rf_26_2 hR, rf_26_3 hR, rf_26_4 hR, rf_26_5 hR, rf_26_6 hR, rf_26_7 hR, rf_27_0 hR, rf_27_1 hR, rf_30_0 hR, rf_30_1 hR, rf_33_0 hR, rf_33_1 hR, rf_36_0 hR, rf_36_1 hR, rf_39_0 hR, rf_39_1 hR, rf_42_0 hR, rf_42_1 hR, rf_45_0 hR, rf_45_1 hR, rf_48_0 hR, rf_48_1 hR, rf_51_0 hR, rf_51_1 hR, rf_51_6 hR, rf_51_7 hR, rf_h_3 hR, rf_d_3 hR, rf_h_4 hR, rf_d_4 hR, rf_h_5 hR, rf_d_5 hR, rf_h_6 hR, rf_d_6 hR, rf_h_7 hR, rf_d_7 hR, rf_h_8 hR, rf_d_8 hR, rf_h_9 hR, rf_d_9 hR, rf_12_0 hR, rf_3_1 hR, kn_0, kn_1, kn_2, kn_3, kn_4, kn_5, kn_6, kn_7, kn_8, kn_9, kn_10, kn_11, kn_12, kn_13, kn_14, kn_15, kn_16, kn_17, kn_18, kn_19, kn_20, kn_21, kn_22, kn_23, kn_24, kn_25, kn_26, kn_27, kn_28, kn_29, kn_30, kn_31, kn_32, kn_33, kn_34, kn_35, kn_36, kn_37, kn_38, kn_39, kn_40, kn_41, kn_42, kn_43, kn_44, kn_45, kn_46, kn_47, kn_48, kn_49, kn_50, kn_51, kn_52, kn_53, kn_54, kn_55, ln_2, ln_5, ln_6, ln_7, ln_8, ln_9, ln_10, ln_11, ln_14, ln_15, ln_16, ln_17, ln_18, ln_19, ln_20, ln_22, ln_23, ln_26, ln_28, ln_29, ln_31, ln_32, ln_34, ln_35, ln_37, ln_38, ln_40, ln_41, ln_43, ln_44, ln_46, ln_47, ln_49, ln_50, ln_52, kn_h hR, lt_h hR, kn_h1 hR, ln_h1 hR, lt_h1 hR, kn_h2 hR, ln_h2 hR, lt_h2 hR, kn_h3 hR, ln_h3 hR, lt_h3 hR, kn_h4 hR, ln_h4 hR, lt_h4 hR, kn_h5 hR, ln_h5 hR, lt_h5 hR, kn_h6 hR, ln_h6 hR, lt_h6 hR, kn_h7 hR, ln_h7 hR, lt_h7 hR, kn_d hR, lt_d hR, kn_d1 hR, ln_d1 hR, lt_d1 hR, kn_d2 hR, ln_d2 hR, lt_d2 hR, kn_d3 hR, ln_d3 hR, lt_d3 hR, kn_d4 hR, ln_d4 hR, lt_d4 hR, kn_d5 hR, ln_d5 hR, lt_d5 hR, kn_d6 hR, ln_d6 hR, lt_d6 hR, kn_d7 hR, ln_d7 hR, lt_d7 hR, va_rf_some, push_s, push_n, nb0, nb1, nbb, Nat.reduceLT, hp, e, hn_3, nI_1, hn_set]
  unfold ow
  by_cases q : wo c wn a = x
  · simp [q, b2i]
  · simp [q, b2i]
theorem c_endOf (hR : tRef h d R) (hS : WSc I c wn) (ha : a < 1000) {v : Int32} : tEv E 75 0 [.ref 51, .int v] [] (mS (hn I a) J R) Q = Q (some (if a = c then v else 0)) (mS (hn I a) J R) := by
  have h120 := hS.2.1
  have e1 : (nI a = nI c) = (a = c) := propext (nI_eq (by omega) (by omega))
  simp only [e_75_0, e_75_1, e_75_4, e_75_5, e_75_8, e_75_11, e_75_12, e_75_15, e_75_16, rf_0_0 hR, rf_0_1 hR, rf_0_2 hR, rf_0_3 hR, rf_0_4 hR, rf_0_5 hR, rf_0_6 hR, rf_1_0 hR, rf_3_0 hR, rf_3_2 hR, rf_4_3 hR, rf_4_4 hR, rf_4_5 hR, rf_4_6 hR, rf_4_7 hR, rf_4_8 hR, rf_4_9 hR, rf_12_1 hR, rf_13_3 hR, rf_13_4 hR, rf_13_5 hR, rf_13_6 hR, rf_13_7 hR, rf_13_8 hR, rf_13_9 hR, rf_21_0 hR, rf_21_1 hR, rf_24_0 hR, rf_25_0 hR, rf_26_0 hR, rf_26_1 hR, rf_26_2 hR, rf_26_3 hR, rf_26_4 hR, rf_26_5 hR, rf_26_6 hR, rf_26_7 hR, rf_27_0 hR, rf_27_1 hR, rf_30_0 hR, rf_30_1 hR, rf_33_0 hR, rf_33_1 hR, rf_36_0 hR, rf_36_1 hR, rf_39_0 hR, rf_39_1 hR, rf_42_0 hR, rf_42_1 hR, rf_45_0 hR, rf_45_1 hR, rf_48_0 hR, rf_48_1 hR, rf_51_0 hR, rf_51_1 hR, rf_51_6 hR, rf_51_7 hR, rf_h_3 hR, rf_d_3 hR, rf_h_4 hR, rf_d_4 hR, rf_h_5 hR, rf_d_5 hR, rf_h_6 hR, rf_d_6 hR, rf_h_7 hR, rf_d_7 hR, rf_h_8 hR, rf_d_8 hR, rf_h_9 hR, rf_d_9 hR, rf_12_0 hR, rf_3_1 hR, kn_0, kn_1, kn_2, kn_3, kn_4, kn_5, kn_6, kn_7, kn_8, kn_9, kn_10, kn_11, kn_12, kn_13, kn_14, kn_15, kn_16, kn_17, kn_18, kn_19, kn_20, kn_21, kn_22, kn_23, kn_24, kn_25, kn_26, kn_27, kn_28, kn_29, kn_30, kn_31, kn_32, kn_33, kn_34, kn_35, kn_36, kn_37, kn_38, kn_39, kn_40, kn_41, kn_42, kn_43, kn_44, kn_45, kn_46, kn_47, kn_48, kn_49, kn_50, kn_51, kn_52, kn_53, kn_54, kn_55, ln_2, ln_5, ln_6, ln_7, ln_8, ln_9, ln_10, ln_11, ln_14, ln_15, ln_16, ln_17, ln_18, ln_19, ln_20, ln_22, ln_23, ln_26, ln_28, ln_29, ln_31, ln_32, ln_34, ln_35, ln_37, ln_38, ln_40, ln_41, ln_43, ln_44, ln_46, ln_47, ln_49, ln_50, ln_52, kn_h hR, lt_h hR, kn_h1 hR, ln_h1 hR, lt_h1 hR, kn_h2 hR, ln_h2 hR, lt_h2 hR, kn_h3 hR, ln_h3 hR, lt_h3 hR, kn_h4 hR, ln_h4 hR, lt_h4 hR, kn_h5 hR, ln_h5 hR, lt_h5 hR, kn_h6 hR, ln_h6 hR, lt_h6 hR, kn_h7 hR, ln_h7 hR, lt_h7 hR, kn_d hR, lt_d hR, kn_d1 hR, ln_d1 hR, lt_d1 hR, kn_d2 hR, ln_d2 hR, lt_d2 hR, kn_d3 hR, ln_d3 hR, lt_d3 hR, kn_d4 hR, ln_d4 hR, lt_d4 hR, kn_d5 hR, ln_d5 hR, lt_d5 hR, kn_d6 hR, ln_d6 hR, lt_d6 hR, kn_d7 hR, ln_d7 hR, lt_d7 hR, va_rf_some, push_s, push_n, nb0, nb1, nbb, Nat.reduceLT, hn_3, hn_2, hS.1, e1]
  by_cases q : a = c <;> simp [q]
theorem c_pop (hR : tRef h d R) (hS : WSc I c wn) (ha : a < 900) : tEv E 73 0 [.ref 51, tm_dum] [] (mS (hn I a) J R) Q = Q (some (wv c wn a)) (mS (hn I (if a < c then a + 1 else a)) J R) := by
  have hp := fun {Q} => c_peek (E := E) (Q := Q) (J := J) hR hS (show a < 1000 by omega)
  rcases wv_cs hS a with ⟨q1, q2, q3⟩ | ⟨q1, q2, q3⟩
  · have e : (nI (wo c wn a) = -4) = False := eq_false (nI_n4 (by omega))
    simp only [e_73_0, e_73_1, e_73_4, e_73_5, e_73_6, e_73_8, e_73_11, e_73_12, e_73_13, e_73_16, e_73_17, e_73_18, e_73_21, e_73_22, rf_0_0 hR, rf_0_1 hR, rf_0_2 hR, rf_0_3 hR, rf_0_4 hR, rf_0_5 hR, rf_0_6 hR, rf_1_0 hR, rf_3_0 hR, rf_3_2 hR, rf_4_3 hR, rf_4_4 hR, rf_4_5 hR, rf_4_6 hR, rf_4_7 hR, rf_4_8 hR, rf_4_9 hR, rf_12_1 hR, rf_13_3 hR, rf_13_4 hR, rf_13_5 hR, rf_13_6 hR, rf_13_7 hR, rf_13_8 hR, rf_13_9 hR, rf_21_0 hR, rf_21_1 hR, rf_24_0 hR, rf_25_0 hR, rf_26_0 hR, rf_26_1 hR, rf_26_2 hR, rf_26_3 hR, rf_26_4 hR, rf_26_5 hR, rf_26_6 hR, rf_26_7 hR, rf_27_0 hR, rf_27_1 hR, rf_30_0 hR, rf_30_1 hR, rf_33_0 hR, rf_33_1 hR, rf_36_0 hR, rf_36_1 hR, rf_39_0 hR, rf_39_1 hR, rf_42_0 hR, rf_42_1 hR, rf_45_0 hR, rf_45_1 hR, rf_48_0 hR, rf_48_1 hR, rf_51_0 hR, rf_51_1 hR, rf_51_6 hR, rf_51_7 hR, rf_h_3 hR, rf_d_3 hR, rf_h_4 hR, rf_d_4 hR, rf_h_5 hR, rf_d_5 hR, rf_h_6 hR, rf_d_6 hR, rf_h_7 hR, rf_d_7 hR, rf_h_8 hR, rf_d_8 hR, rf_h_9 hR, rf_d_9 hR, rf_12_0 hR, rf_3_1 hR, kn_0, kn_1, kn_2, kn_3, kn_4, kn_5, kn_6, kn_7, kn_8, kn_9, kn_10, kn_11, kn_12, kn_13, kn_14, kn_15, kn_16, kn_17, kn_18, kn_19, kn_20, kn_21, kn_22, kn_23, kn_24, kn_25, kn_26, kn_27, kn_28, kn_29, kn_30, kn_31, kn_32, kn_33, kn_34, kn_35, kn_36, kn_37, kn_38, kn_39, kn_40, kn_41, kn_42, kn_43, kn_44, kn_45, kn_46, kn_47, kn_48, kn_49, kn_50, kn_51, kn_52, kn_53, kn_54, kn_55, ln_2, ln_5, ln_6, ln_7, ln_8, ln_9, ln_10, ln_11, ln_14, ln_15, ln_16, ln_17, ln_18, ln_19, ln_20, ln_22, ln_23, ln_26, ln_28, ln_29, ln_31, ln_32, ln_34, ln_35, ln_37, ln_38, ln_40, ln_41, ln_43, ln_44, ln_46, ln_47, ln_49, ln_50, ln_52, kn_h hR, lt_h hR, kn_h1 hR, ln_h1 hR, lt_h1 hR, kn_h2 hR, ln_h2 hR, lt_h2 hR, kn_h3 hR, ln_h3 hR, lt_h3 hR, kn_h4 hR, ln_h4 hR, lt_h4 hR, kn_h5 hR, ln_h5 hR, lt_h5 hR, kn_h6 hR, ln_h6 hR, lt_h6 hR, kn_h7 hR, ln_h7 hR, lt_h7 hR, kn_d hR, lt_d hR, kn_d1 hR, ln_d1 hR, lt_d1 hR, kn_d2 hR, ln_d2 hR, lt_d2 hR, kn_d3 hR, ln_d3 hR, lt_d3 hR, kn_d4 hR, ln_d4 hR, lt_d4 hR, kn_d5 hR, ln_d5 hR, lt_d5 hR, kn_d6 hR, ln_d6 hR, lt_d6 hR, kn_d7 hR, ln_d7 hR, lt_d7 hR, va_rf_some, push_s, push_n, nb0, nb1, nbb, Nat.reduceLT, hp, q2, e, if_false, hn_3, nI_1, hn_set, q3, if_true]
  · simp only [e_73_0, e_73_1, e_73_4, e_73_5, e_73_6, e_73_8, e_73_11, e_73_12, e_73_13, e_73_16, e_73_17, e_73_18, e_73_21, e_73_22, rf_0_0 hR, rf_0_1 hR, rf_0_2 hR, rf_0_3 hR, rf_0_4 hR, rf_0_5 hR, rf_0_6 hR, rf_1_0 hR, rf_3_0 hR, rf_3_2 hR, rf_4_3 hR, rf_4_4 hR, rf_4_5 hR, rf_4_6 hR, rf_4_7 hR, rf_4_8 hR, rf_4_9 hR, rf_12_1 hR, rf_13_3 hR, rf_13_4 hR, rf_13_5 hR, rf_13_6 hR, rf_13_7 hR, rf_13_8 hR, rf_13_9 hR, rf_21_0 hR, rf_21_1 hR, rf_24_0 hR, rf_25_0 hR, rf_26_0 hR, rf_26_1 hR, rf_26_2 hR, rf_26_3 hR, rf_26_4 hR, rf_26_5 hR, rf_26_6 hR, rf_26_7 hR, rf_27_0 hR, rf_27_1 hR, rf_30_0 hR, rf_30_1 hR, rf_33_0 hR, rf_33_1 hR, rf_36_0 hR, rf_36_1 hR, rf_39_0 hR, rf_39_1 hR, rf_42_0 hR, rf_42_1 hR, rf_45_0 hR, rf_45_1 hR, rf_48_0 hR, rf_48_1 hR, rf_51_0 hR, rf_51_1 hR, rf_51_6 hR, rf_51_7 hR, rf_h_3 hR, rf_d_3 hR, rf_h_4 hR, rf_d_4 hR, rf_h_5 hR, rf_d_5 hR, rf_h_6 hR, rf_d_6 hR, rf_h_7 hR, rf_d_7 hR, rf_h_8 hR, rf_d_8 hR, rf_h_9 hR, rf_d_9 hR, rf_12_0 hR, rf_3_1 hR, kn_0, kn_1, kn_2, kn_3, kn_4, kn_5, kn_6, kn_7, kn_8, kn_9, kn_10, kn_11, kn_12, kn_13, kn_14, kn_15, kn_16, kn_17, kn_18, kn_19, kn_20, kn_21, kn_22, kn_23, kn_24, kn_25, kn_26, kn_27, kn_28, kn_29, kn_30, kn_31, kn_32, kn_33, kn_34, kn_35, kn_36, kn_37, kn_38, kn_39, kn_40, kn_41, kn_42, kn_43, kn_44, kn_45, kn_46, kn_47, kn_48, kn_49, kn_50, kn_51, kn_52, kn_53, kn_54, kn_55, ln_2, ln_5, ln_6, ln_7, ln_8, ln_9, ln_10, ln_11, ln_14, ln_15, ln_16, ln_17, ln_18, ln_19, ln_20, ln_22, ln_23, ln_26, ln_28, ln_29, ln_31, ln_32, ln_34, ln_35, ln_37, ln_38, ln_40, ln_41, ln_43, ln_44, ln_46, ln_47, ln_49, ln_50, ln_52, kn_h hR, lt_h hR, kn_h1 hR, ln_h1 hR, lt_h1 hR, kn_h2 hR, ln_h2 hR, lt_h2 hR, kn_h3 hR, ln_h3 hR, lt_h3 hR, kn_h4 hR, ln_h4 hR, lt_h4 hR, kn_h5 hR, ln_h5 hR, lt_h5 hR, kn_h6 hR, ln_h6 hR, lt_h6 hR, kn_h7 hR, ln_h7 hR, lt_h7 hR, kn_d hR, lt_d hR, kn_d1 hR, ln_d1 hR, lt_d1 hR, kn_d2 hR, ln_d2 hR, lt_d2 hR, kn_d3 hR, ln_d3 hR, lt_d3 hR, kn_d4 hR, ln_d4 hR, lt_d4 hR, kn_d5 hR, ln_d5 hR, lt_d5 hR, kn_d6 hR, ln_d6 hR, lt_d6 hR, kn_d7 hR, ln_d7 hR, lt_d7 hR, va_rf_some, push_s, push_n, nb0, nb1, nbb, Nat.reduceLT, hp, q2, if_true, show (a < c) = False from eq_false (by omega), if_false]
theorem c_readAdj (hR : tRef h d R) (hS : WSc I c wn) (ha : a < 900) : tEv E 76 0 [.ref 51, tm_dum] [] (mS (hn I a) J R) Q = Q (some (if 12 ≤ wo c wn a ∧ wo c wn a ≤ 19 then nI (wo c wn a - 12) else -4)) (mS (hn I (if 12 ≤ wo c wn a ∧ wo c wn a ≤ 19 then a + 1 else a)) J R) := by
  have hp := fun {Q} => c_peek (E := E) (Q := Q) (J := J) hR hS (show a < 1000 by omega)
  rcases wv_cs hS a with ⟨q1, q2, q3⟩ | ⟨q1, q2, q3⟩
  · have e1 : (nI (wo c wn a) < 12) = (wo c wn a < 12) := propext (nI_ltI (b := 12) (by omega) (by omega))
    have e2 : (nI (wo c wn a) < 20) = (wo c wn a < 20) := propext (nI_ltI (b := 20) (by omega) (by omega))
    simp only [e_76_0, e_76_1, e_76_4, e_76_5, e_76_6, e_76_8, e_76_11, e_76_12, e_76_14, e_76_17, e_76_19, e_76_20, e_76_21, e_76_22, e_76_25, e_76_26, e_76_27, e_76_30, e_76_31, e_76_33, e_76_34, rf_0_0 hR, rf_0_1 hR, rf_0_2 hR, rf_0_3 hR, rf_0_4 hR, rf_0_5 hR, rf_0_6 hR, rf_1_0 hR, rf_3_0 hR, rf_3_2 hR, rf_4_3 hR, rf_4_4 hR, rf_4_5 hR, rf_4_6 hR, rf_4_7 hR, rf_4_8 hR, rf_4_9 hR, rf_12_1 hR, rf_13_3 hR, rf_13_4 hR, rf_13_5 hR, rf_13_6 hR, rf_13_7 hR, rf_13_8 hR, rf_13_9 hR, rf_21_0 hR, rf_21_1 hR, rf_24_0 hR, rf_25_0 hR, rf_26_0 hR, rf_26_1 hR, rf_26_2 hR, rf_26_3 hR, rf_26_4 hR, rf_26_5 hR, rf_26_6 hR, rf_26_7 hR, rf_27_0 hR, rf_27_1 hR, rf_30_0 hR, rf_30_1 hR, rf_33_0 hR, rf_33_1 hR, rf_36_0 hR, rf_36_1 hR, rf_39_0 hR, rf_39_1 hR, rf_42_0 hR, rf_42_1 hR, rf_45_0 hR, rf_45_1 hR, rf_48_0 hR, rf_48_1 hR, rf_51_0 hR, rf_51_1 hR, rf_51_6 hR, rf_51_7 hR, rf_h_3 hR, rf_d_3 hR, rf_h_4 hR, rf_d_4 hR, rf_h_5 hR, rf_d_5 hR, rf_h_6 hR, rf_d_6 hR, rf_h_7 hR, rf_d_7 hR, rf_h_8 hR, rf_d_8 hR, rf_h_9 hR, rf_d_9 hR, rf_12_0 hR, rf_3_1 hR, kn_0, kn_1, kn_2, kn_3, kn_4, kn_5, kn_6, kn_7, kn_8, kn_9, kn_10, kn_11, kn_12, kn_13, kn_14, kn_15, kn_16, kn_17, kn_18, kn_19, kn_20, kn_21, kn_22, kn_23, kn_24, kn_25, kn_26, kn_27, kn_28, kn_29, kn_30, kn_31, kn_32, kn_33, kn_34, kn_35, kn_36, kn_37, kn_38, kn_39, kn_40, kn_41, kn_42, kn_43, kn_44, kn_45, kn_46, kn_47, kn_48, kn_49, kn_50, kn_51, kn_52, kn_53, kn_54, kn_55, ln_2, ln_5, ln_6, ln_7, ln_8, ln_9, ln_10, ln_11, ln_14, ln_15, ln_16, ln_17, ln_18, ln_19, ln_20, ln_22, ln_23, ln_26, ln_28, ln_29, ln_31, ln_32, ln_34, ln_35, ln_37, ln_38, ln_40, ln_41, ln_43, ln_44, ln_46, ln_47, ln_49, ln_50, ln_52, kn_h hR, lt_h hR, kn_h1 hR, ln_h1 hR, lt_h1 hR, kn_h2 hR, ln_h2 hR, lt_h2 hR, kn_h3 hR, ln_h3 hR, lt_h3 hR, kn_h4 hR, ln_h4 hR, lt_h4 hR, kn_h5 hR, ln_h5 hR, lt_h5 hR, kn_h6 hR, ln_h6 hR, lt_h6 hR, kn_h7 hR, ln_h7 hR, lt_h7 hR, kn_d hR, lt_d hR, kn_d1 hR, ln_d1 hR, lt_d1 hR, kn_d2 hR, ln_d2 hR, lt_d2 hR, kn_d3 hR, ln_d3 hR, lt_d3 hR, kn_d4 hR, ln_d4 hR, lt_d4 hR, kn_d5 hR, ln_d5 hR, lt_d5 hR, kn_d6 hR, ln_d6 hR, lt_d6 hR, kn_d7 hR, ln_d7 hR, lt_d7 hR, va_rf_some, push_s, push_n, nb0, nb1, nbb, Nat.reduceLT, hp, q2, e1, e2, hn_3, nI_1, hn_set]
    by_cases c1 : wo c wn a < 12
    · rw [if_pos c1, if_neg (show ¬ (12 ≤ wo c wn a ∧ wo c wn a ≤ 19) by omega), if_neg (show ¬ (12 ≤ wo c wn a ∧ wo c wn a ≤ 19) by omega)]
    · rw [if_neg c1]
      by_cases c2 : wo c wn a < 20
      · rw [if_pos c2, if_pos (show 12 ≤ wo c wn a ∧ wo c wn a ≤ 19 by omega), if_pos (show 12 ≤ wo c wn a ∧ wo c wn a ≤ 19 by omega), show nI (wo c wn a) - 12 = nI (wo c wn a - 12) from pk_sub (b := 12) (by omega)]
      · rw [if_neg c2, if_neg (show ¬ (12 ≤ wo c wn a ∧ wo c wn a ≤ 19) by omega), if_neg (show ¬ (12 ≤ wo c wn a ∧ wo c wn a ≤ 19) by omega)]
  · simp only [e_76_0, e_76_1, e_76_4, e_76_5, e_76_6, e_76_8, e_76_11, e_76_12, e_76_14, e_76_17, e_76_19, e_76_20, e_76_21, e_76_22, e_76_25, e_76_26, e_76_27, e_76_30, e_76_31, e_76_33, e_76_34, rf_0_0 hR, rf_0_1 hR, rf_0_2 hR, rf_0_3 hR, rf_0_4 hR, rf_0_5 hR, rf_0_6 hR, rf_1_0 hR, rf_3_0 hR, rf_3_2 hR, rf_4_3 hR, rf_4_4 hR, rf_4_5 hR, rf_4_6 hR, rf_4_7 hR, rf_4_8 hR, rf_4_9 hR, rf_12_1 hR, rf_13_3 hR, rf_13_4 hR, rf_13_5 hR, rf_13_6 hR, rf_13_7 hR, rf_13_8 hR, rf_13_9 hR, rf_21_0 hR, rf_21_1 hR, rf_24_0 hR, rf_25_0 hR, rf_26_0 hR, rf_26_1 hR, rf_26_2 hR, rf_26_3 hR, rf_26_4 hR, rf_26_5 hR, rf_26_6 hR, rf_26_7 hR, rf_27_0 hR, rf_27_1 hR, rf_30_0 hR, rf_30_1 hR, rf_33_0 hR, rf_33_1 hR, rf_36_0 hR, rf_36_1 hR, rf_39_0 hR, rf_39_1 hR, rf_42_0 hR, rf_42_1 hR, rf_45_0 hR, rf_45_1 hR, rf_48_0 hR, rf_48_1 hR, rf_51_0 hR, rf_51_1 hR, rf_51_6 hR, rf_51_7 hR, rf_h_3 hR, rf_d_3 hR, rf_h_4 hR, rf_d_4 hR, rf_h_5 hR, rf_d_5 hR, rf_h_6 hR, rf_d_6 hR, rf_h_7 hR, rf_d_7 hR, rf_h_8 hR, rf_d_8 hR, rf_h_9 hR, rf_d_9 hR, rf_12_0 hR, rf_3_1 hR, kn_0, kn_1, kn_2, kn_3, kn_4, kn_5, kn_6, kn_7, kn_8, kn_9, kn_10, kn_11, kn_12, kn_13, kn_14, kn_15, kn_16, kn_17, kn_18, kn_19, kn_20, kn_21, kn_22, kn_23, kn_24, kn_25, kn_26, kn_27, kn_28, kn_29, kn_30, kn_31, kn_32, kn_33, kn_34, kn_35, kn_36, kn_37, kn_38, kn_39, kn_40, kn_41, kn_42, kn_43, kn_44, kn_45, kn_46, kn_47, kn_48, kn_49, kn_50, kn_51, kn_52, kn_53, kn_54, kn_55, ln_2, ln_5, ln_6, ln_7, ln_8, ln_9, ln_10, ln_11, ln_14, ln_15, ln_16, ln_17, ln_18, ln_19, ln_20, ln_22, ln_23, ln_26, ln_28, ln_29, ln_31, ln_32, ln_34, ln_35, ln_37, ln_38, ln_40, ln_41, ln_43, ln_44, ln_46, ln_47, ln_49, ln_50, ln_52, kn_h hR, lt_h hR, kn_h1 hR, ln_h1 hR, lt_h1 hR, kn_h2 hR, ln_h2 hR, lt_h2 hR, kn_h3 hR, ln_h3 hR, lt_h3 hR, kn_h4 hR, ln_h4 hR, lt_h4 hR, kn_h5 hR, ln_h5 hR, lt_h5 hR, kn_h6 hR, ln_h6 hR, lt_h6 hR, kn_h7 hR, ln_h7 hR, lt_h7 hR, kn_d hR, lt_d hR, kn_d1 hR, ln_d1 hR, lt_d1 hR, kn_d2 hR, ln_d2 hR, lt_d2 hR, kn_d3 hR, ln_d3 hR, lt_d3 hR, kn_d4 hR, ln_d4 hR, lt_d4 hR, kn_d5 hR, ln_d5 hR, lt_d5 hR, kn_d6 hR, ln_d6 hR, lt_d6 hR, kn_d7 hR, ln_d7 hR, lt_d7 hR, va_rf_some, push_s, push_n, nb0, nb1, nbb, Nat.reduceLT, hp, q2, show ((-4 : Int32) < 12) = True from eq_true (by decide), if_true, q1, show (12 ≤ 99 ∧ 99 ≤ 19) = False from eq_false (by decide), if_false]
theorem c_readNoun (hR : tRef h d R) (hS : WSc I c wn) (ha : a < 900) : tEv E 77 0 [.ref 51, tm_dum] [] (mS (hn I a) J R) Q = Q (some (if wo c wn a ≤ 11 then nI (wo c wn a) else -4)) (mS (hn I (if wo c wn a ≤ 11 then a + 1 else a)) J R) := by
  have hp := fun {Q} => c_peek (E := E) (Q := Q) (J := J) hR hS (show a < 1000 by omega)
  rcases wv_cs hS a with ⟨q1, q2, q3⟩ | ⟨q1, q2, q3⟩
  · have e1 : (nI (wo c wn a) < 0) = False := eq_false (nI_pos (by omega))
    have e2 : (nI (wo c wn a) < 12) = (wo c wn a < 12) := propext (nI_ltI (b := 12) (by omega) (by omega))
    simp only [e_77_0, e_77_1, e_77_4, e_77_5, e_77_6, e_77_9, e_77_10, e_77_12, e_77_15, e_77_17, e_77_18, e_77_19, e_77_20, e_77_23, e_77_24, e_77_25, e_77_28, e_77_29, rf_0_0 hR, rf_0_1 hR, rf_0_2 hR, rf_0_3 hR, rf_0_4 hR, rf_0_5 hR, rf_0_6 hR, rf_1_0 hR, rf_3_0 hR, rf_3_2 hR, rf_4_3 hR, rf_4_4 hR, rf_4_5 hR, rf_4_6 hR, rf_4_7 hR, rf_4_8 hR, rf_4_9 hR, rf_12_1 hR, rf_13_3 hR, rf_13_4 hR, rf_13_5 hR, rf_13_6 hR, rf_13_7 hR, rf_13_8 hR, rf_13_9 hR, rf_21_0 hR, rf_21_1 hR, rf_24_0 hR, rf_25_0 hR, rf_26_0 hR, rf_26_1 hR, rf_26_2 hR, rf_26_3 hR, rf_26_4 hR, rf_26_5 hR, rf_26_6 hR, rf_26_7 hR, rf_27_0 hR, rf_27_1 hR, rf_30_0 hR, rf_30_1 hR, rf_33_0 hR, rf_33_1 hR, rf_36_0 hR, rf_36_1 hR, rf_39_0 hR, rf_39_1 hR, rf_42_0 hR, rf_42_1 hR, rf_45_0 hR, rf_45_1 hR, rf_48_0 hR, rf_48_1 hR, rf_51_0 hR, rf_51_1 hR, rf_51_6 hR, rf_51_7 hR, rf_h_3 hR, rf_d_3 hR, rf_h_4 hR, rf_d_4 hR, rf_h_5 hR, rf_d_5 hR, rf_h_6 hR, rf_d_6 hR, rf_h_7 hR, rf_d_7 hR, rf_h_8 hR, rf_d_8 hR, rf_h_9 hR, rf_d_9 hR, rf_12_0 hR, rf_3_1 hR, kn_0, kn_1, kn_2, kn_3, kn_4, kn_5, kn_6, kn_7, kn_8, kn_9, kn_10, kn_11, kn_12, kn_13, kn_14, kn_15, kn_16, kn_17, kn_18, kn_19, kn_20, kn_21, kn_22, kn_23, kn_24, kn_25, kn_26, kn_27, kn_28, kn_29, kn_30, kn_31, kn_32, kn_33, kn_34, kn_35, kn_36, kn_37, kn_38, kn_39, kn_40, kn_41, kn_42, kn_43, kn_44, kn_45, kn_46, kn_47, kn_48, kn_49, kn_50, kn_51, kn_52, kn_53, kn_54, kn_55, ln_2, ln_5, ln_6, ln_7, ln_8, ln_9, ln_10, ln_11, ln_14, ln_15, ln_16, ln_17, ln_18, ln_19, ln_20, ln_22, ln_23, ln_26, ln_28, ln_29, ln_31, ln_32, ln_34, ln_35, ln_37, ln_38, ln_40, ln_41, ln_43, ln_44, ln_46, ln_47, ln_49, ln_50, ln_52, kn_h hR, lt_h hR, kn_h1 hR, ln_h1 hR, lt_h1 hR, kn_h2 hR, ln_h2 hR, lt_h2 hR, kn_h3 hR, ln_h3 hR, lt_h3 hR, kn_h4 hR, ln_h4 hR, lt_h4 hR, kn_h5 hR, ln_h5 hR, lt_h5 hR, kn_h6 hR, ln_h6 hR, lt_h6 hR, kn_h7 hR, ln_h7 hR, lt_h7 hR, kn_d hR, lt_d hR, kn_d1 hR, ln_d1 hR, lt_d1 hR, kn_d2 hR, ln_d2 hR, lt_d2 hR, kn_d3 hR, ln_d3 hR, lt_d3 hR, kn_d4 hR, ln_d4 hR, lt_d4 hR, kn_d5 hR, ln_d5 hR, lt_d5 hR, kn_d6 hR, ln_d6 hR, lt_d6 hR, kn_d7 hR, ln_d7 hR, lt_d7 hR, va_rf_some, push_s, push_n, nb0, nb1, nbb, Nat.reduceLT, hp, q2, e1, e2, if_false, hn_3, nI_1, hn_set]
    by_cases c2 : wo c wn a < 12
    · rw [if_pos c2, if_pos (show wo c wn a ≤ 11 by omega), if_pos (show wo c wn a ≤ 11 by omega)]
    · rw [if_neg c2, if_neg (show ¬ wo c wn a ≤ 11 by omega), if_neg (show ¬ wo c wn a ≤ 11 by omega)]
  · simp only [e_77_0, e_77_1, e_77_4, e_77_5, e_77_6, e_77_9, e_77_10, e_77_12, e_77_15, e_77_17, e_77_18, e_77_19, e_77_20, e_77_23, e_77_24, e_77_25, e_77_28, e_77_29, rf_0_0 hR, rf_0_1 hR, rf_0_2 hR, rf_0_3 hR, rf_0_4 hR, rf_0_5 hR, rf_0_6 hR, rf_1_0 hR, rf_3_0 hR, rf_3_2 hR, rf_4_3 hR, rf_4_4 hR, rf_4_5 hR, rf_4_6 hR, rf_4_7 hR, rf_4_8 hR, rf_4_9 hR, rf_12_1 hR, rf_13_3 hR, rf_13_4 hR, rf_13_5 hR, rf_13_6 hR, rf_13_7 hR, rf_13_8 hR, rf_13_9 hR, rf_21_0 hR, rf_21_1 hR, rf_24_0 hR, rf_25_0 hR, rf_26_0 hR, rf_26_1 hR, rf_26_2 hR, rf_26_3 hR, rf_26_4 hR, rf_26_5 hR, rf_26_6 hR, rf_26_7 hR, rf_27_0 hR, rf_27_1 hR, rf_30_0 hR, rf_30_1 hR, rf_33_0 hR, rf_33_1 hR, rf_36_0 hR, rf_36_1 hR, rf_39_0 hR, rf_39_1 hR, rf_42_0 hR, rf_42_1 hR, rf_45_0 hR, rf_45_1 hR, rf_48_0 hR, rf_48_1 hR, rf_51_0 hR, rf_51_1 hR, rf_51_6 hR, rf_51_7 hR, rf_h_3 hR, rf_d_3 hR, rf_h_4 hR, rf_d_4 hR, rf_h_5 hR, rf_d_5 hR, rf_h_6 hR, rf_d_6 hR, rf_h_7 hR, rf_d_7 hR, rf_h_8 hR, rf_d_8 hR, rf_h_9 hR, rf_d_9 hR, rf_12_0 hR, rf_3_1 hR, kn_0, kn_1, kn_2, kn_3, kn_4, kn_5, kn_6, kn_7, kn_8, kn_9, kn_10, kn_11, kn_12, kn_13, kn_14, kn_15, kn_16, kn_17, kn_18, kn_19, kn_20, kn_21, kn_22, kn_23, kn_24, kn_25, kn_26, kn_27, kn_28, kn_29, kn_30, kn_31, kn_32, kn_33, kn_34, kn_35, kn_36, kn_37, kn_38, kn_39, kn_40, kn_41, kn_42, kn_43, kn_44, kn_45, kn_46, kn_47, kn_48, kn_49, kn_50, kn_51, kn_52, kn_53, kn_54, kn_55, ln_2, ln_5, ln_6, ln_7, ln_8, ln_9, ln_10, ln_11, ln_14, ln_15, ln_16, ln_17, ln_18, ln_19, ln_20, ln_22, ln_23, ln_26, ln_28, ln_29, ln_31, ln_32, ln_34, ln_35, ln_37, ln_38, ln_40, ln_41, ln_43, ln_44, ln_46, ln_47, ln_49, ln_50, ln_52, kn_h hR, lt_h hR, kn_h1 hR, ln_h1 hR, lt_h1 hR, kn_h2 hR, ln_h2 hR, lt_h2 hR, kn_h3 hR, ln_h3 hR, lt_h3 hR, kn_h4 hR, ln_h4 hR, lt_h4 hR, kn_h5 hR, ln_h5 hR, lt_h5 hR, kn_h6 hR, ln_h6 hR, lt_h6 hR, kn_h7 hR, ln_h7 hR, lt_h7 hR, kn_d hR, lt_d hR, kn_d1 hR, ln_d1 hR, lt_d1 hR, kn_d2 hR, ln_d2 hR, lt_d2 hR, kn_d3 hR, ln_d3 hR, lt_d3 hR, kn_d4 hR, ln_d4 hR, lt_d4 hR, kn_d5 hR, ln_d5 hR, lt_d5 hR, kn_d6 hR, ln_d6 hR, lt_d6 hR, kn_d7 hR, ln_d7 hR, lt_d7 hR, va_rf_some, push_s, push_n, nb0, nb1, nbb, Nat.reduceLT, hp, q2, show ((-4 : Int32) < 0) = True from eq_true (by decide), if_true, q1, show (99 ≤ 11) = False from eq_false (by decide), if_false]
theorem sAv_is : sAv c wn a = if 12 ≤ wo c wn (s1 c wn a) ∧ wo c wn (s1 c wn a) ≤ 19 then nI (wo c wn (s1 c wn a) - 12) else -4 := by
  unfold sAv sAd
  by_cases q : 12 ≤ wo c wn (s1 c wn a) ∧ wo c wn (s1 c wn a) ≤ 19
  · rw [if_pos q, if_pos (decide_eq_true q)]
  · rw [if_neg q, if_neg (by rw [decide_eq_false q]; decide)]
theorem s2_is : s2 c wn a = if 12 ≤ wo c wn (s1 c wn a) ∧ wo c wn (s1 c wn a) ≤ 19 then s1 c wn a + 1 else s1 c wn a := by
  unfold s2 sAd
  by_cases q : 12 ≤ wo c wn (s1 c wn a) ∧ wo c wn (s1 c wn a) ≤ 19
  · rw [if_pos q, if_pos (decide_eq_true q)]
  · rw [if_neg q, if_neg (by rw [decide_eq_false q]; decide)]
theorem sNv_is : sNv c wn a = if wo c wn (s2 c wn a) ≤ 11 then nI (wo c wn (s2 c wn a)) else -4 := by
  unfold sNv sNd
  by_cases q : wo c wn (s2 c wn a) ≤ 11
  · rw [if_pos q, if_pos (decide_eq_true q)]
  · rw [if_neg q, if_neg (by rw [decide_eq_false q]; decide)]
theorem s3_is : s3 c wn a = if wo c wn (s2 c wn a) ≤ 11 then s2 c wn a + 1 else s2 c wn a := by
  unfold s3 sNd
  by_cases q : wo c wn (s2 c wn a) ≤ 11
  · rw [if_pos q, if_pos (decide_eq_true q)]
  · rw [if_neg q, if_neg (by rw [decide_eq_false q]; decide)]
theorem sNv_4 : (sNv c wn a = -4) = (sNd c wn a = false) := by
  unfold sNv
  cases q : sNd c wn a with
  | true =>
    have : wo c wn (s2 c wn a) ≤ 11 := of_decide_eq_true q
    rw [if_pos rfl]
    exact propext ⟨fun e => absurd e (nI_n4 (by omega)), fun e => by cases e⟩
  | false => simp
theorem sAv_4 : (sAv c wn a = -4) = (sAd c wn a = false) := by
  unfold sAv
  cases q : sAd c wn a with
  | true =>
    have : 12 ≤ wo c wn (s1 c wn a) ∧ wo c wn (s1 c wn a) ≤ 19 := of_decide_eq_true q
    rw [if_pos rfl]
    exact propext ⟨fun e => absurd e (nI_n4 (by omega)), fun e => by cases e⟩
  | false => simp
theorem c_readPhrase (hR : tRef h d R) (hS : WSc I c wn) (ha : a < 800) {cell : Nat} (hc : cell = 53 ∨ cell = 54) : tEv E 78 0 [.ref 51, .ref cell] [] (mS (hn I a) J R) Q = Q (some (b2i (phOk c wn a))) (mS (hn (cphS I cell c wn a) (phP c wn a)) J R) := by
  have hk : tm_kn tL cell = some 5 := by rcases hc with rfl | rfl <;> rfl
  have hlt : cell < 1000 := by omega
  have hne : ∀ p I, hn I p cell = I cell := fun p I => by unfold hn; rw [vu, if_neg (by omega)]
  have hup : ∀ p I f, va_up (hn I p) cell f = hn (va_up I cell f) p := fun p I f => by unfold hn; rw [vu_comm _ (by omega), vu, if_neg (by omega)]
  have sk37 := fun {Q} => c_skip (E := E) (Q := Q) (J := J) hR hS (show a < 900 by omega) (x := 37) (by decide)
  rw [show nI 37 = 37 from rfl] at sk37
  by_cases q : wo c wn a = 37
  · have eo : ow c wn 37 a = a + 1 := if_pos q
    have ep : phOk c wn a = true := by unfold phOk; rw [decide_eq_true q]; rfl
    have ep2 : phP c wn a = a + 1 := if_pos q
    have es : cphS I cell c wn a = va_up I cell (upd (I cell) 0 1) := if_pos q
    simp only [e_78_0, e_78_1, e_78_2, e_78_4, e_78_7, e_78_10, e_78_11, e_78_14, e_78_17, e_78_18, e_78_19, e_78_20, e_78_22, e_78_25, e_78_26, e_78_27, e_78_28, e_78_31, e_78_34, e_78_35, e_78_36, e_78_39, e_78_42, e_78_43, e_78_46, e_78_48, e_78_51, e_78_52, e_78_55, e_78_56, rf_0_0 hR, rf_0_1 hR, rf_0_2 hR, rf_0_3 hR, rf_0_4 hR, rf_0_5 hR, rf_0_6 hR, rf_1_0 hR, rf_3_0 hR, rf_3_2 hR, rf_4_3 hR, rf_4_4 hR, rf_4_5 hR, rf_4_6 hR, rf_4_7 hR, rf_4_8 hR, rf_4_9 hR, rf_12_1 hR, rf_13_3 hR, rf_13_4 hR, rf_13_5 hR, rf_13_6 hR, rf_13_7 hR, rf_13_8 hR, rf_13_9 hR, rf_21_0 hR, rf_21_1 hR, rf_24_0 hR, rf_25_0 hR, rf_26_0 hR, rf_26_1 hR, rf_26_2 hR, rf_26_3 hR, rf_26_4 hR, rf_26_5 hR, rf_26_6 hR, rf_26_7 hR, rf_27_0 hR, rf_27_1 hR, rf_30_0 hR, rf_30_1 hR, rf_33_0 hR, rf_33_1 hR, rf_36_0 hR, rf_36_1 hR, rf_39_0 hR, rf_39_1 hR, rf_42_0 hR, rf_42_1 hR, rf_45_0 hR, rf_45_1 hR, rf_48_0 hR, rf_48_1 hR, rf_51_0 hR, rf_51_1 hR, rf_51_6 hR, rf_51_7 hR, rf_h_3 hR, rf_d_3 hR, rf_h_4 hR, rf_d_4 hR, rf_h_5 hR, rf_d_5 hR, rf_h_6 hR, rf_d_6 hR, rf_h_7 hR, rf_d_7 hR, rf_h_8 hR, rf_d_8 hR, rf_h_9 hR, rf_d_9 hR, rf_12_0 hR, rf_3_1 hR, kn_0, kn_1, kn_2, kn_3, kn_4, kn_5, kn_6, kn_7, kn_8, kn_9, kn_10, kn_11, kn_12, kn_13, kn_14, kn_15, kn_16, kn_17, kn_18, kn_19, kn_20, kn_21, kn_22, kn_23, kn_24, kn_25, kn_26, kn_27, kn_28, kn_29, kn_30, kn_31, kn_32, kn_33, kn_34, kn_35, kn_36, kn_37, kn_38, kn_39, kn_40, kn_41, kn_42, kn_43, kn_44, kn_45, kn_46, kn_47, kn_48, kn_49, kn_50, kn_51, kn_52, kn_53, kn_54, kn_55, ln_2, ln_5, ln_6, ln_7, ln_8, ln_9, ln_10, ln_11, ln_14, ln_15, ln_16, ln_17, ln_18, ln_19, ln_20, ln_22, ln_23, ln_26, ln_28, ln_29, ln_31, ln_32, ln_34, ln_35, ln_37, ln_38, ln_40, ln_41, ln_43, ln_44, ln_46, ln_47, ln_49, ln_50, ln_52, kn_h hR, lt_h hR, kn_h1 hR, ln_h1 hR, lt_h1 hR, kn_h2 hR, ln_h2 hR, lt_h2 hR, kn_h3 hR, ln_h3 hR, lt_h3 hR, kn_h4 hR, ln_h4 hR, lt_h4 hR, kn_h5 hR, ln_h5 hR, lt_h5 hR, kn_h6 hR, ln_h6 hR, lt_h6 hR, kn_h7 hR, ln_h7 hR, lt_h7 hR, kn_d hR, lt_d hR, kn_d1 hR, ln_d1 hR, lt_d1 hR, kn_d2 hR, ln_d2 hR, lt_d2 hR, kn_d3 hR, ln_d3 hR, lt_d3 hR, kn_d4 hR, ln_d4 hR, lt_d4 hR, kn_d5 hR, ln_d5 hR, lt_d5 hR, kn_d6 hR, ln_d6 hR, lt_d6 hR, kn_d7 hR, ln_d7 hR, lt_d7 hR, va_rf_some, push_s, push_n, nb0, nb1, nbb, Nat.reduceLT, sk37, decide_eq_true q, eo, hk, hlt, show b2i true = 1 from rfl, eq_self, true_or, or_true, hne, hup, vu_eq, ud, if_true, show ((1 : Int32) = 0) = False from eq_false (by decide), if_false, ep, ep2, es]
  · have eo : ow c wn 37 a = a := if_neg q
    have ep : phOk c wn a = sNd c wn a := by unfold phOk; rw [decide_eq_false q]; rfl
    have ep2 : phP c wn a = s3 c wn a := if_neg q
    have es : cphS I cell c wn a = va_up I cell (upd (upd (upd (I cell) 0 0) 2 (sAv c wn a)) 1 (sNv c wn a)) := if_neg q
    have hS1 : ∀ f, WSc (va_up I cell f) c wn := fun f => WSc_fr (frP_ph (frP_refl I) hc) hS
    obtain ⟨l1, l2, l3⟩ := s_le c wn a
    have sk36 := fun {Q} f => c_skip (E := E) (Q := Q) (J := J) hR (hS1 f) (show a < 900 by omega) (x := 36) (by decide)
    rw [show nI 36 = 36 from rfl] at sk36
    have eo36 : ow c wn 36 a = s1 c wn a := rfl
    have rA := fun {Q} f => c_readAdj (E := E) (Q := Q) (J := J) hR (hS1 f) (a := s1 c wn a) (by omega)
    have rN := fun {Q} f => c_readNoun (E := E) (Q := Q) (J := J) hR (hS1 f) (a := s2 c wn a) (by omega)
    simp only [← sAv_is, ← s2_is] at rA
    simp only [← sNv_is, ← s3_is] at rN
    simp only [e_78_0, e_78_1, e_78_2, e_78_4, e_78_7, e_78_10, e_78_11, e_78_14, e_78_17, e_78_18, e_78_19, e_78_20, e_78_22, e_78_25, e_78_26, e_78_27, e_78_28, e_78_31, e_78_34, e_78_35, e_78_36, e_78_39, e_78_42, e_78_43, e_78_46, e_78_48, e_78_51, e_78_52, e_78_55, e_78_56, rf_0_0 hR, rf_0_1 hR, rf_0_2 hR, rf_0_3 hR, rf_0_4 hR, rf_0_5 hR, rf_0_6 hR, rf_1_0 hR, rf_3_0 hR, rf_3_2 hR, rf_4_3 hR, rf_4_4 hR, rf_4_5 hR, rf_4_6 hR, rf_4_7 hR, rf_4_8 hR, rf_4_9 hR, rf_12_1 hR, rf_13_3 hR, rf_13_4 hR, rf_13_5 hR, rf_13_6 hR, rf_13_7 hR, rf_13_8 hR, rf_13_9 hR, rf_21_0 hR, rf_21_1 hR, rf_24_0 hR, rf_25_0 hR, rf_26_0 hR, rf_26_1 hR, rf_26_2 hR, rf_26_3 hR, rf_26_4 hR, rf_26_5 hR, rf_26_6 hR, rf_26_7 hR, rf_27_0 hR, rf_27_1 hR, rf_30_0 hR, rf_30_1 hR, rf_33_0 hR, rf_33_1 hR, rf_36_0 hR, rf_36_1 hR, rf_39_0 hR, rf_39_1 hR, rf_42_0 hR, rf_42_1 hR, rf_45_0 hR, rf_45_1 hR, rf_48_0 hR, rf_48_1 hR, rf_51_0 hR, rf_51_1 hR, rf_51_6 hR, rf_51_7 hR, rf_h_3 hR, rf_d_3 hR, rf_h_4 hR, rf_d_4 hR, rf_h_5 hR, rf_d_5 hR, rf_h_6 hR, rf_d_6 hR, rf_h_7 hR, rf_d_7 hR, rf_h_8 hR, rf_d_8 hR, rf_h_9 hR, rf_d_9 hR, rf_12_0 hR, rf_3_1 hR, kn_0, kn_1, kn_2, kn_3, kn_4, kn_5, kn_6, kn_7, kn_8, kn_9, kn_10, kn_11, kn_12, kn_13, kn_14, kn_15, kn_16, kn_17, kn_18, kn_19, kn_20, kn_21, kn_22, kn_23, kn_24, kn_25, kn_26, kn_27, kn_28, kn_29, kn_30, kn_31, kn_32, kn_33, kn_34, kn_35, kn_36, kn_37, kn_38, kn_39, kn_40, kn_41, kn_42, kn_43, kn_44, kn_45, kn_46, kn_47, kn_48, kn_49, kn_50, kn_51, kn_52, kn_53, kn_54, kn_55, ln_2, ln_5, ln_6, ln_7, ln_8, ln_9, ln_10, ln_11, ln_14, ln_15, ln_16, ln_17, ln_18, ln_19, ln_20, ln_22, ln_23, ln_26, ln_28, ln_29, ln_31, ln_32, ln_34, ln_35, ln_37, ln_38, ln_40, ln_41, ln_43, ln_44, ln_46, ln_47, ln_49, ln_50, ln_52, kn_h hR, lt_h hR, kn_h1 hR, ln_h1 hR, lt_h1 hR, kn_h2 hR, ln_h2 hR, lt_h2 hR, kn_h3 hR, ln_h3 hR, lt_h3 hR, kn_h4 hR, ln_h4 hR, lt_h4 hR, kn_h5 hR, ln_h5 hR, lt_h5 hR, kn_h6 hR, ln_h6 hR, lt_h6 hR, kn_h7 hR, ln_h7 hR, lt_h7 hR, kn_d hR, lt_d hR, kn_d1 hR, ln_d1 hR, lt_d1 hR, kn_d2 hR, ln_d2 hR, lt_d2 hR, kn_d3 hR, ln_d3 hR, lt_d3 hR, kn_d4 hR, ln_d4 hR, lt_d4 hR, kn_d5 hR, ln_d5 hR, lt_d5 hR, kn_d6 hR, ln_d6 hR, lt_d6 hR, kn_d7 hR, ln_d7 hR, lt_d7 hR, va_rf_some, push_s, push_n, nb0, nb1, nbb, Nat.reduceLT, sk37, decide_eq_false q, eo, hk, hlt, show b2i false = 0 from rfl, eq_self, true_or, or_true, hne, hup, vu_eq, ud, if_true, sk36, eo36, rA, vu_vu, rN, sNv_4, ep, ep2, es]
    cases sNd c wn a <;> rfl
/-- what kind of sentence, in the class -/
def knd (code : Nat) : Int32 := if code = 99 then 0 else if code < 12 then 1 else if code = 20 then 2 else if code = 12 then 3 else if code = 13 then 4 else if code = 14 then 5 else if code = 15 then 6 else 7
def CPs (I : Nat → Nat → Int32) (c : Nat) (wn : Nat → Nat) (a code : Nat) : Prop := code < 12 → I 51 4 = nI code ∧ CPH I 53 c wn a ∧ (of2 code = true → CPH I 54 c wn (phP c wn a + 1))
def SRc (E : tm_Env) (J : Nat → Nat → Int64) (R : Nat → Nat → Option Nat) (k : Nat) (ls : List Value) (I0 I : Nat → Nat → Int32) (c : Nat) (wn : Nat → Nat) (a code : Nat) : Prop :=
  ∃ I', frP I I' ∧ CPs I' c wn a code ∧ ∀ Q, tEv E k 0 ls [] (mS I0 J R) Q = Q (some (knd code)) (mS I' J R)
theorem CPs_99 {k : Nat} (h : 12 ≤ k) : CPs I c wn a k := fun e => by omega
theorem frP_hn {I' : Nat → Nat → Int32} (h : frP I I') : frP I (hn I' a) := frP_51 h (by decide)
theorem knd_lt {code : Nat} (h : code < 12) : knd code = 1 := by
  unfold knd
  rw [if_neg (by omega), if_pos h]
theorem k_one (hR : tRef h d R) (hS : WSc I c wn) (ha' : a < 700) {code : Nat} (hc : code < 12) (h2 : of2 code = false) : SRc E J R 80 [.ref 51, .int (nI code)] (hn I a) I c wn a (o1C c wn a code) := by
  have hS1 : WSc (acI I (nI code)) c wn := WSc_fr (frP_51 (frP_refl I) (by decide)) hS
  have f2 : frP I (cphS (acI I (nI code)) 53 c wn a) := frP_cph (frP_51 (frP_refl I) (by decide)) (Or.inl rfl)
  have hS2 := WSc_fr f2 hS
  have hl := phP_le c wn a
  have rp := fun {Q} => c_readPhrase (E := E) (Q := Q) (J := J) hR hS1 (show a < 800 by omega) (cell := 53) (Or.inl rfl)
  have en := fun {Q} => c_endOf (E := E) (Q := Q) (J := J) hR hS2 (a := phP c wn a) (v := 1) (by omega)
  refine ⟨hn (cphS (acI I (nI code)) 53 c wn a) (phP c wn a), frP_hn f2, ?_, fun Q => ?_⟩
  · unfold o1C
    split
    · refine fun _ => ⟨?_, CPH_is (Or.inl rfl), fun e => by rw [h2] at e; cases e⟩
      rw [hn_4]
      unfold cphS acI
      split <;> rw [vu, if_neg (by decide), vu_eq, ud, if_pos rfl]
    · exact CPs_99 (by decide)
  · simp only [e_80_0, e_80_1, e_80_2, e_80_5, e_80_6, e_80_7, e_80_10, e_80_13, e_80_16, e_80_17, e_80_18, e_80_21, e_80_24, e_80_25, rf_0_0 hR, rf_0_1 hR, rf_0_2 hR, rf_0_3 hR, rf_0_4 hR, rf_0_5 hR, rf_0_6 hR, rf_1_0 hR, rf_3_0 hR, rf_3_2 hR, rf_4_3 hR, rf_4_4 hR, rf_4_5 hR, rf_4_6 hR, rf_4_7 hR, rf_4_8 hR, rf_4_9 hR, rf_12_1 hR, rf_13_3 hR, rf_13_4 hR, rf_13_5 hR, rf_13_6 hR, rf_13_7 hR, rf_13_8 hR, rf_13_9 hR, rf_21_0 hR, rf_21_1 hR, rf_24_0 hR, rf_25_0 hR, rf_26_0 hR, rf_26_1 hR, rf_26_2 hR, rf_26_3 hR, rf_26_4 hR, rf_26_5 hR, rf_26_6 hR, rf_26_7 hR, rf_27_0 hR, rf_27_1 hR, rf_30_0 hR, rf_30_1 hR, rf_33_0 hR, rf_33_1 hR, rf_36_0 hR, rf_36_1 hR, rf_39_0 hR, rf_39_1 hR, rf_42_0 hR, rf_42_1 hR, rf_45_0 hR, rf_45_1 hR, rf_48_0 hR, rf_48_1 hR, rf_51_0 hR, rf_51_1 hR, rf_51_6 hR, rf_51_7 hR, rf_h_3 hR, rf_d_3 hR, rf_h_4 hR, rf_d_4 hR, rf_h_5 hR, rf_d_5 hR, rf_h_6 hR, rf_d_6 hR, rf_h_7 hR, rf_d_7 hR, rf_h_8 hR, rf_d_8 hR, rf_h_9 hR, rf_d_9 hR, rf_12_0 hR, rf_3_1 hR, kn_0, kn_1, kn_2, kn_3, kn_4, kn_5, kn_6, kn_7, kn_8, kn_9, kn_10, kn_11, kn_12, kn_13, kn_14, kn_15, kn_16, kn_17, kn_18, kn_19, kn_20, kn_21, kn_22, kn_23, kn_24, kn_25, kn_26, kn_27, kn_28, kn_29, kn_30, kn_31, kn_32, kn_33, kn_34, kn_35, kn_36, kn_37, kn_38, kn_39, kn_40, kn_41, kn_42, kn_43, kn_44, kn_45, kn_46, kn_47, kn_48, kn_49, kn_50, kn_51, kn_52, kn_53, kn_54, kn_55, ln_2, ln_5, ln_6, ln_7, ln_8, ln_9, ln_10, ln_11, ln_14, ln_15, ln_16, ln_17, ln_18, ln_19, ln_20, ln_22, ln_23, ln_26, ln_28, ln_29, ln_31, ln_32, ln_34, ln_35, ln_37, ln_38, ln_40, ln_41, ln_43, ln_44, ln_46, ln_47, ln_49, ln_50, ln_52, kn_h hR, lt_h hR, kn_h1 hR, ln_h1 hR, lt_h1 hR, kn_h2 hR, ln_h2 hR, lt_h2 hR, kn_h3 hR, ln_h3 hR, lt_h3 hR, kn_h4 hR, ln_h4 hR, lt_h4 hR, kn_h5 hR, ln_h5 hR, lt_h5 hR, kn_h6 hR, ln_h6 hR, lt_h6 hR, kn_h7 hR, ln_h7 hR, lt_h7 hR, kn_d hR, lt_d hR, kn_d1 hR, ln_d1 hR, lt_d1 hR, kn_d2 hR, ln_d2 hR, lt_d2 hR, kn_d3 hR, ln_d3 hR, lt_d3 hR, kn_d4 hR, ln_d4 hR, lt_d4 hR, kn_d5 hR, ln_d5 hR, lt_d5 hR, kn_d6 hR, ln_d6 hR, lt_d6 hR, kn_d7 hR, ln_d7 hR, lt_d7 hR, va_rf_some, push_s, push_n, nb0, nb1, nbb, Nat.reduceLT, hn_s4, rp, en, b2i_0]
    unfold o1C
    cases q1 : phOk c wn a with
    | false =>
      rw [if_pos rfl, if_neg (by simp)]
      rfl
    | true =>
      rw [if_neg (by decide)]
      by_cases q2 : phP c wn a = c
      · rw [if_pos q2, if_pos (by simp [q2]), knd_lt hc]
      · rw [if_neg q2, if_neg (by simp [q2])]
        rfl
theorem k_two (hR : tRef h d R) (hS : WSc I c wn) {code : Nat} (hc : code < 12) : SRc E J R 82 [.ref 51, .int (nI code)] (hn I 1) I c wn 1 (t2C c wn code) := by
  have f1 : frP I (acI I (nI code)) := frP_51 (frP_refl I) (by decide)
  have hS1 := WSc_fr f1 hS
  have f2 : frP I (cphS (acI I (nI code)) 53 c wn 1) := frP_cph f1 (Or.inl rfl)
  have hS2 := WSc_fr f2 hS
  have f3 : frP I (cphS (cphS (acI I (nI code)) 53 c wn 1) 54 c wn (phP c wn 1 + 1)) := frP_cph f2 (Or.inr rfl)
  have hS3 := WSc_fr f3 hS
  have hl := phP_le c wn 1
  have hl2 := phP_le c wn (phP c wn 1 + 1)
  have rp := fun {Q} => c_readPhrase (E := E) (Q := Q) (J := J) hR hS1 (a := 1) (by decide) (cell := 53) (Or.inl rfl)
  have sk := fun {Q} => c_skip (E := E) (Q := Q) (J := J) hR hS2 (a := phP c wn 1) (by omega) (x := 35) (by decide)
  rw [show nI 35 = 35 from rfl] at sk
  by_cases q1 : phOk c wn 1 = true
  · by_cases q2 : wo c wn (phP c wn 1) = 35
    · have eo : ow c wn 35 (phP c wn 1) = phP c wn 1 + 1 := if_pos q2
      rw [eo] at sk
      have rp2 := fun {Q} => c_readPhrase (E := E) (Q := Q) (J := J) hR hS2 (a := phP c wn 1 + 1) (by omega) (cell := 54) (Or.inr rfl)
      have en := fun {Q} => c_endOf (E := E) (Q := Q) (J := J) hR hS3 (a := phP c wn (phP c wn 1 + 1)) (v := 1) (by omega)
      refine ⟨hn (cphS (cphS (acI I (nI code)) 53 c wn 1) 54 c wn (phP c wn 1 + 1)) (phP c wn (phP c wn 1 + 1)), frP_hn f3, ?_, fun Q => ?_⟩
      · unfold t2C
        split
        · refine fun _ => ⟨?_, CPH_53, fun _ => CPH_is (Or.inr rfl)⟩
          rw [hn_4]
          unfold cphS acI
          split <;> split <;> rw [vu, if_neg (by decide), vu, if_neg (by decide), vu_eq, ud, if_pos rfl]
        · exact CPs_99 (by decide)
      · simp only [e_82_0, e_82_1, e_82_2, e_82_5, e_82_6, e_82_7, e_82_10, e_82_13, e_82_16, e_82_17, e_82_19, e_82_22, e_82_25, e_82_26, e_82_27, e_82_30, e_82_33, e_82_36, e_82_37, e_82_38, e_82_41, e_82_44, e_82_45, rf_0_0 hR, rf_0_1 hR, rf_0_2 hR, rf_0_3 hR, rf_0_4 hR, rf_0_5 hR, rf_0_6 hR, rf_1_0 hR, rf_3_0 hR, rf_3_2 hR, rf_4_3 hR, rf_4_4 hR, rf_4_5 hR, rf_4_6 hR, rf_4_7 hR, rf_4_8 hR, rf_4_9 hR, rf_12_1 hR, rf_13_3 hR, rf_13_4 hR, rf_13_5 hR, rf_13_6 hR, rf_13_7 hR, rf_13_8 hR, rf_13_9 hR, rf_21_0 hR, rf_21_1 hR, rf_24_0 hR, rf_25_0 hR, rf_26_0 hR, rf_26_1 hR, rf_26_2 hR, rf_26_3 hR, rf_26_4 hR, rf_26_5 hR, rf_26_6 hR, rf_26_7 hR, rf_27_0 hR, rf_27_1 hR, rf_30_0 hR, rf_30_1 hR, rf_33_0 hR, rf_33_1 hR, rf_36_0 hR, rf_36_1 hR, rf_39_0 hR, rf_39_1 hR, rf_42_0 hR, rf_42_1 hR, rf_45_0 hR, rf_45_1 hR, rf_48_0 hR, rf_48_1 hR, rf_51_0 hR, rf_51_1 hR, rf_51_6 hR, rf_51_7 hR, rf_h_3 hR, rf_d_3 hR, rf_h_4 hR, rf_d_4 hR, rf_h_5 hR, rf_d_5 hR, rf_h_6 hR, rf_d_6 hR, rf_h_7 hR, rf_d_7 hR, rf_h_8 hR, rf_d_8 hR, rf_h_9 hR, rf_d_9 hR, rf_12_0 hR, rf_3_1 hR, kn_0, kn_1, kn_2, kn_3, kn_4, kn_5, kn_6, kn_7, kn_8, kn_9, kn_10, kn_11, kn_12, kn_13, kn_14, kn_15, kn_16, kn_17, kn_18, kn_19, kn_20, kn_21, kn_22, kn_23, kn_24, kn_25, kn_26, kn_27, kn_28, kn_29, kn_30, kn_31, kn_32, kn_33, kn_34, kn_35, kn_36, kn_37, kn_38, kn_39, kn_40, kn_41, kn_42, kn_43, kn_44, kn_45, kn_46, kn_47, kn_48, kn_49, kn_50, kn_51, kn_52, kn_53, kn_54, kn_55, ln_2, ln_5, ln_6, ln_7, ln_8, ln_9, ln_10, ln_11, ln_14, ln_15, ln_16, ln_17, ln_18, ln_19, ln_20, ln_22, ln_23, ln_26, ln_28, ln_29, ln_31, ln_32, ln_34, ln_35, ln_37, ln_38, ln_40, ln_41, ln_43, ln_44, ln_46, ln_47, ln_49, ln_50, ln_52, kn_h hR, lt_h hR, kn_h1 hR, ln_h1 hR, lt_h1 hR, kn_h2 hR, ln_h2 hR, lt_h2 hR, kn_h3 hR, ln_h3 hR, lt_h3 hR, kn_h4 hR, ln_h4 hR, lt_h4 hR, kn_h5 hR, ln_h5 hR, lt_h5 hR, kn_h6 hR, ln_h6 hR, lt_h6 hR, kn_h7 hR, ln_h7 hR, lt_h7 hR, kn_d hR, lt_d hR, kn_d1 hR, ln_d1 hR, lt_d1 hR, kn_d2 hR, ln_d2 hR, lt_d2 hR, kn_d3 hR, ln_d3 hR, lt_d3 hR, kn_d4 hR, ln_d4 hR, lt_d4 hR, kn_d5 hR, ln_d5 hR, lt_d5 hR, kn_d6 hR, ln_d6 hR, lt_d6 hR, kn_d7 hR, ln_d7 hR, lt_d7 hR, va_rf_some, push_s, push_n, nb0, nb1, nbb, Nat.reduceLT, hn_s4, rp, q1, b2i_0, sk, decide_eq_true q2, rp2, en, Bool.true_eq_false, if_false]
        unfold t2C t2Ok
        rw [q1, decide_eq_true q2]
        cases q3 : phOk c wn (phP c wn 1 + 1) with
        | false =>
          rw [if_pos rfl, if_neg (by simp)]
          rfl
        | true =>
          rw [if_neg (by decide)]
          by_cases q4 : phP c wn (phP c wn 1 + 1) = c
          · rw [if_pos q4, if_pos (by simp [q4]), knd_lt hc]
          · rw [if_neg q4, if_neg (by simp [q4])]
            rfl
    · have et : t2C c wn code = 99 := by
        unfold t2C t2Ok
        rw [decide_eq_false q2, if_neg (by simp)]
      have eo : ow c wn 35 (phP c wn 1) = phP c wn 1 := if_neg q2
      rw [eo] at sk
      rw [et]
      refine ⟨hn (cphS (acI I (nI code)) 53 c wn 1) (phP c wn 1), frP_hn f2, CPs_99 (by decide), fun Q => ?_⟩
      simp only [e_82_0, e_82_1, e_82_2, e_82_5, e_82_6, e_82_7, e_82_10, e_82_13, e_82_16, e_82_17, e_82_19, e_82_22, e_82_25, e_82_26, e_82_27, e_82_30, e_82_33, e_82_36, e_82_37, e_82_38, e_82_41, e_82_44, e_82_45, rf_0_0 hR, rf_0_1 hR, rf_0_2 hR, rf_0_3 hR, rf_0_4 hR, rf_0_5 hR, rf_0_6 hR, rf_1_0 hR, rf_3_0 hR, rf_3_2 hR, rf_4_3 hR, rf_4_4 hR, rf_4_5 hR, rf_4_6 hR, rf_4_7 hR, rf_4_8 hR, rf_4_9 hR, rf_12_1 hR, rf_13_3 hR, rf_13_4 hR, rf_13_5 hR, rf_13_6 hR, rf_13_7 hR, rf_13_8 hR, rf_13_9 hR, rf_21_0 hR, rf_21_1 hR, rf_24_0 hR, rf_25_0 hR, rf_26_0 hR, rf_26_1 hR, rf_26_2 hR, rf_26_3 hR, rf_26_4 hR, rf_26_5 hR, rf_26_6 hR, rf_26_7 hR, rf_27_0 hR, rf_27_1 hR, rf_30_0 hR, rf_30_1 hR, rf_33_0 hR, rf_33_1 hR, rf_36_0 hR, rf_36_1 hR, rf_39_0 hR, rf_39_1 hR, rf_42_0 hR, rf_42_1 hR, rf_45_0 hR, rf_45_1 hR, rf_48_0 hR, rf_48_1 hR, rf_51_0 hR, rf_51_1 hR, rf_51_6 hR, rf_51_7 hR, rf_h_3 hR, rf_d_3 hR, rf_h_4 hR, rf_d_4 hR, rf_h_5 hR, rf_d_5 hR, rf_h_6 hR, rf_d_6 hR, rf_h_7 hR, rf_d_7 hR, rf_h_8 hR, rf_d_8 hR, rf_h_9 hR, rf_d_9 hR, rf_12_0 hR, rf_3_1 hR, kn_0, kn_1, kn_2, kn_3, kn_4, kn_5, kn_6, kn_7, kn_8, kn_9, kn_10, kn_11, kn_12, kn_13, kn_14, kn_15, kn_16, kn_17, kn_18, kn_19, kn_20, kn_21, kn_22, kn_23, kn_24, kn_25, kn_26, kn_27, kn_28, kn_29, kn_30, kn_31, kn_32, kn_33, kn_34, kn_35, kn_36, kn_37, kn_38, kn_39, kn_40, kn_41, kn_42, kn_43, kn_44, kn_45, kn_46, kn_47, kn_48, kn_49, kn_50, kn_51, kn_52, kn_53, kn_54, kn_55, ln_2, ln_5, ln_6, ln_7, ln_8, ln_9, ln_10, ln_11, ln_14, ln_15, ln_16, ln_17, ln_18, ln_19, ln_20, ln_22, ln_23, ln_26, ln_28, ln_29, ln_31, ln_32, ln_34, ln_35, ln_37, ln_38, ln_40, ln_41, ln_43, ln_44, ln_46, ln_47, ln_49, ln_50, ln_52, kn_h hR, lt_h hR, kn_h1 hR, ln_h1 hR, lt_h1 hR, kn_h2 hR, ln_h2 hR, lt_h2 hR, kn_h3 hR, ln_h3 hR, lt_h3 hR, kn_h4 hR, ln_h4 hR, lt_h4 hR, kn_h5 hR, ln_h5 hR, lt_h5 hR, kn_h6 hR, ln_h6 hR, lt_h6 hR, kn_h7 hR, ln_h7 hR, lt_h7 hR, kn_d hR, lt_d hR, kn_d1 hR, ln_d1 hR, lt_d1 hR, kn_d2 hR, ln_d2 hR, lt_d2 hR, kn_d3 hR, ln_d3 hR, lt_d3 hR, kn_d4 hR, ln_d4 hR, lt_d4 hR, kn_d5 hR, ln_d5 hR, lt_d5 hR, kn_d6 hR, ln_d6 hR, lt_d6 hR, kn_d7 hR, ln_d7 hR, lt_d7 hR, va_rf_some, push_s, push_n, nb0, nb1, nbb, Nat.reduceLT, hn_s4, rp, q1, b2i_0, sk, decide_eq_false q2, Bool.true_eq_false, if_false, if_true]
      rfl
  · have q1' : phOk c wn 1 = false := by simpa using q1
    have et : t2C c wn code = 99 := by
      unfold t2C t2Ok
      rw [q1', if_neg (by simp)]
    rw [et]
    refine ⟨hn (cphS (acI I (nI code)) 53 c wn 1) (phP c wn 1), frP_hn f2, CPs_99 (by decide), fun Q => ?_⟩
    simp only [e_82_0, e_82_1, e_82_2, e_82_5, e_82_6, e_82_7, e_82_10, e_82_13, e_82_16, e_82_17, e_82_19, e_82_22, e_82_25, e_82_26, e_82_27, e_82_30, e_82_33, e_82_36, e_82_37, e_82_38, e_82_41, e_82_44, e_82_45, rf_0_0 hR, rf_0_1 hR, rf_0_2 hR, rf_0_3 hR, rf_0_4 hR, rf_0_5 hR, rf_0_6 hR, rf_1_0 hR, rf_3_0 hR, rf_3_2 hR, rf_4_3 hR, rf_4_4 hR, rf_4_5 hR, rf_4_6 hR, rf_4_7 hR, rf_4_8 hR, rf_4_9 hR, rf_12_1 hR, rf_13_3 hR, rf_13_4 hR, rf_13_5 hR, rf_13_6 hR, rf_13_7 hR, rf_13_8 hR, rf_13_9 hR, rf_21_0 hR, rf_21_1 hR, rf_24_0 hR, rf_25_0 hR, rf_26_0 hR, rf_26_1 hR, rf_26_2 hR, rf_26_3 hR, rf_26_4 hR, rf_26_5 hR, rf_26_6 hR, rf_26_7 hR, rf_27_0 hR, rf_27_1 hR, rf_30_0 hR, rf_30_1 hR, rf_33_0 hR, rf_33_1 hR, rf_36_0 hR, rf_36_1 hR, rf_39_0 hR, rf_39_1 hR, rf_42_0 hR, rf_42_1 hR, rf_45_0 hR, rf_45_1 hR, rf_48_0 hR, rf_48_1 hR, rf_51_0 hR, rf_51_1 hR, rf_51_6 hR, rf_51_7 hR, rf_h_3 hR, rf_d_3 hR, rf_h_4 hR, rf_d_4 hR, rf_h_5 hR, rf_d_5 hR, rf_h_6 hR, rf_d_6 hR, rf_h_7 hR, rf_d_7 hR, rf_h_8 hR, rf_d_8 hR, rf_h_9 hR, rf_d_9 hR, rf_12_0 hR, rf_3_1 hR, kn_0, kn_1, kn_2, kn_3, kn_4, kn_5, kn_6, kn_7, kn_8, kn_9, kn_10, kn_11, kn_12, kn_13, kn_14, kn_15, kn_16, kn_17, kn_18, kn_19, kn_20, kn_21, kn_22, kn_23, kn_24, kn_25, kn_26, kn_27, kn_28, kn_29, kn_30, kn_31, kn_32, kn_33, kn_34, kn_35, kn_36, kn_37, kn_38, kn_39, kn_40, kn_41, kn_42, kn_43, kn_44, kn_45, kn_46, kn_47, kn_48, kn_49, kn_50, kn_51, kn_52, kn_53, kn_54, kn_55, ln_2, ln_5, ln_6, ln_7, ln_8, ln_9, ln_10, ln_11, ln_14, ln_15, ln_16, ln_17, ln_18, ln_19, ln_20, ln_22, ln_23, ln_26, ln_28, ln_29, ln_31, ln_32, ln_34, ln_35, ln_37, ln_38, ln_40, ln_41, ln_43, ln_44, ln_46, ln_47, ln_49, ln_50, ln_52, kn_h hR, lt_h hR, kn_h1 hR, ln_h1 hR, lt_h1 hR, kn_h2 hR, ln_h2 hR, lt_h2 hR, kn_h3 hR, ln_h3 hR, lt_h3 hR, kn_h4 hR, ln_h4 hR, lt_h4 hR, kn_h5 hR, ln_h5 hR, lt_h5 hR, kn_h6 hR, ln_h6 hR, lt_h6 hR, kn_h7 hR, ln_h7 hR, lt_h7 hR, kn_d hR, lt_d hR, kn_d1 hR, ln_d1 hR, lt_d1 hR, kn_d2 hR, ln_d2 hR, lt_d2 hR, kn_d3 hR, ln_d3 hR, lt_d3 hR, kn_d4 hR, ln_d4 hR, lt_d4 hR, kn_d5 hR, ln_d5 hR, lt_d5 hR, kn_d6 hR, ln_d6 hR, lt_d6 hR, kn_d7 hR, ln_d7 hR, lt_d7 hR, va_rf_some, push_s, push_n, nb0, nb1, nbb, Nat.reduceLT, hn_s4, rp, q1', b2i_0, if_true]
    rfl
/-- the take that is not of all -/
def tk2 (c : Nat) (wn : Nat → Nat) : Nat := if phOk c wn 1 = true then (if phP c wn 1 = c then 0 else if t2Ok c wn 34 1 = true then 11 else 99) else 99
theorem k_take (hR : tRef h d R) (hS : WSc I c wn) : SRc E J R 79 [.ref 51] (hn I 1) I c wn 1 (tk2 c wn) := by
  have f2 : frP I (cphS I 53 c wn 1) := frP_cph (frP_refl I) (Or.inl rfl)
  have hS2 := WSc_fr f2 hS
  have hl := phP_le c wn 1
  have hl2 := phP_le c wn (phP c wn 1 + 1)
  have rp := fun {Q} => c_readPhrase (E := E) (Q := Q) (J := J) hR hS (a := 1) (by decide) (cell := 53) (Or.inl rfl)
  have sk := fun {Q} => c_skip (E := E) (Q := Q) (J := J) hR hS2 (a := phP c wn 1) (by omega) (x := 34) (by decide)
  rw [show nI 34 = 34 from rfl] at sk
  by_cases q1 : phOk c wn 1 = true
  · by_cases q2 : wo c wn (phP c wn 1) = 34
    · have eo : ow c wn 34 (phP c wn 1) = phP c wn 1 + 1 := if_pos q2
      rw [eo] at sk
      have q3 : ¬ phP c wn 1 = c := fun e => by
        unfold wo at q2
        rw [e, if_neg (Nat.lt_irrefl c)] at q2
        cases q2
      have f3 : frP I (acI (cphS I 53 c wn 1) 11) := frP_51 f2 (by decide)
      have hS3 := WSc_fr f3 hS
      have f4 : frP I (cphS (acI (cphS I 53 c wn 1) 11) 54 c wn (phP c wn 1 + 1)) := frP_cph f3 (Or.inr rfl)
      have hS4 := WSc_fr f4 hS
      have rp2 := fun {Q} => c_readPhrase (E := E) (Q := Q) (J := J) hR hS3 (a := phP c wn 1 + 1) (by omega) (cell := 54) (Or.inr rfl)
      have en := fun {Q} => c_endOf (E := E) (Q := Q) (J := J) hR hS4 (a := phP c wn (phP c wn 1 + 1)) (v := 1) (by omega)
      refine ⟨hn (cphS (acI (cphS I 53 c wn 1) 11) 54 c wn (phP c wn 1 + 1)) (phP c wn (phP c wn 1 + 1)), frP_hn f4, ?_, fun Q => ?_⟩
      · unfold tk2
        rw [if_pos q1, if_neg q3]
        split
        · refine fun _ => ⟨?_, ?_, fun _ => CPH_is (Or.inr rfl)⟩
          · rw [hn_4]
            unfold cphS acI
            split <;> rw [vu, if_neg (by decide), vu_eq, ud, if_pos rfl] <;> rfl
          · have e : ∀ p, hn (cphS (acI (cphS I 53 c wn 1) 11) 54 c wn (phP c wn 1 + 1)) p 53 = hn (cphS I 53 c wn 1) p 53 := fun p => by
              rw [hn_53, hn_53]
              generalize cphS I 53 c wn 1 = B
              unfold cphS acI
              split <;> rw [vu, if_neg (by decide), vu, if_neg (by decide)]
            unfold CPH
            rw [e]
            exact CPH_is (Or.inl rfl)
        · exact CPs_99 (by decide)
      · simp only [e_79_0, e_79_1, e_79_2, e_79_5, e_79_8, e_79_11, e_79_12, e_79_13, e_79_14, e_79_16, e_79_19, e_79_22, e_79_23, e_79_24, e_79_27, e_79_28, e_79_29, e_79_32, e_79_33, e_79_34, e_79_36, e_79_39, e_79_40, e_79_41, e_79_44, e_79_47, e_79_50, e_79_51, e_79_52, e_79_55, e_79_58, e_79_59, rf_0_0 hR, rf_0_1 hR, rf_0_2 hR, rf_0_3 hR, rf_0_4 hR, rf_0_5 hR, rf_0_6 hR, rf_1_0 hR, rf_3_0 hR, rf_3_2 hR, rf_4_3 hR, rf_4_4 hR, rf_4_5 hR, rf_4_6 hR, rf_4_7 hR, rf_4_8 hR, rf_4_9 hR, rf_12_1 hR, rf_13_3 hR, rf_13_4 hR, rf_13_5 hR, rf_13_6 hR, rf_13_7 hR, rf_13_8 hR, rf_13_9 hR, rf_21_0 hR, rf_21_1 hR, rf_24_0 hR, rf_25_0 hR, rf_26_0 hR, rf_26_1 hR, rf_26_2 hR, rf_26_3 hR, rf_26_4 hR, rf_26_5 hR, rf_26_6 hR, rf_26_7 hR, rf_27_0 hR, rf_27_1 hR, rf_30_0 hR, rf_30_1 hR, rf_33_0 hR, rf_33_1 hR, rf_36_0 hR, rf_36_1 hR, rf_39_0 hR, rf_39_1 hR, rf_42_0 hR, rf_42_1 hR, rf_45_0 hR, rf_45_1 hR, rf_48_0 hR, rf_48_1 hR, rf_51_0 hR, rf_51_1 hR, rf_51_6 hR, rf_51_7 hR, rf_h_3 hR, rf_d_3 hR, rf_h_4 hR, rf_d_4 hR, rf_h_5 hR, rf_d_5 hR, rf_h_6 hR, rf_d_6 hR, rf_h_7 hR, rf_d_7 hR, rf_h_8 hR, rf_d_8 hR, rf_h_9 hR, rf_d_9 hR, rf_12_0 hR, rf_3_1 hR, kn_0, kn_1, kn_2, kn_3, kn_4, kn_5, kn_6, kn_7, kn_8, kn_9, kn_10, kn_11, kn_12, kn_13, kn_14, kn_15, kn_16, kn_17, kn_18, kn_19, kn_20, kn_21, kn_22, kn_23, kn_24, kn_25, kn_26, kn_27, kn_28, kn_29, kn_30, kn_31, kn_32, kn_33, kn_34, kn_35, kn_36, kn_37, kn_38, kn_39, kn_40, kn_41, kn_42, kn_43, kn_44, kn_45, kn_46, kn_47, kn_48, kn_49, kn_50, kn_51, kn_52, kn_53, kn_54, kn_55, ln_2, ln_5, ln_6, ln_7, ln_8, ln_9, ln_10, ln_11, ln_14, ln_15, ln_16, ln_17, ln_18, ln_19, ln_20, ln_22, ln_23, ln_26, ln_28, ln_29, ln_31, ln_32, ln_34, ln_35, ln_37, ln_38, ln_40, ln_41, ln_43, ln_44, ln_46, ln_47, ln_49, ln_50, ln_52, kn_h hR, lt_h hR, kn_h1 hR, ln_h1 hR, lt_h1 hR, kn_h2 hR, ln_h2 hR, lt_h2 hR, kn_h3 hR, ln_h3 hR, lt_h3 hR, kn_h4 hR, ln_h4 hR, lt_h4 hR, kn_h5 hR, ln_h5 hR, lt_h5 hR, kn_h6 hR, ln_h6 hR, lt_h6 hR, kn_h7 hR, ln_h7 hR, lt_h7 hR, kn_d hR, lt_d hR, kn_d1 hR, ln_d1 hR, lt_d1 hR, kn_d2 hR, ln_d2 hR, lt_d2 hR, kn_d3 hR, ln_d3 hR, lt_d3 hR, kn_d4 hR, ln_d4 hR, lt_d4 hR, kn_d5 hR, ln_d5 hR, lt_d5 hR, kn_d6 hR, ln_d6 hR, lt_d6 hR, kn_d7 hR, ln_d7 hR, lt_d7 hR, va_rf_some, push_s, push_n, nb0, nb1, nbb, Nat.reduceLT, hn_s4, rp, q1, b2i_0, sk, decide_eq_true q2, rp2, en, Bool.true_eq_false, if_false]
        unfold tk2 t2Ok
        rw [if_pos q1, if_neg q3, q1, decide_eq_true q2]
        cases q4 : phOk c wn (phP c wn 1 + 1) with
        | false =>
          rw [if_pos rfl, if_neg (by simp)]
          rfl
        | true =>
          rw [if_neg (by decide)]
          by_cases q5 : phP c wn (phP c wn 1 + 1) = c
          · rw [if_pos q5, if_pos (by simp [q5])]
            rfl
          · rw [if_neg q5, if_neg (by simp [q5])]
            rfl
    · have eo : ow c wn 34 (phP c wn 1) = phP c wn 1 := if_neg q2
      rw [eo] at sk
      have f3 : frP I (acI (cphS I 53 c wn 1) 0) := frP_51 f2 (by decide)
      have hS3 := WSc_fr f3 hS
      have en := fun {Q} => c_endOf (E := E) (Q := Q) (J := J) hR hS3 (a := phP c wn 1) (v := 1) (by omega)
      have et : t2Ok c wn 34 1 = false := by
        unfold t2Ok
        rw [decide_eq_false q2]
        simp
      refine ⟨hn (acI (cphS I 53 c wn 1) 0) (phP c wn 1), frP_hn f3, ?_, fun Q => ?_⟩
      · unfold tk2
        rw [if_pos q1]
        split
        · refine fun _ => ⟨?_, CPH_ac (Or.inl rfl) (CPH_is (Or.inl rfl)), fun e => by cases e⟩
          rw [hn_4]
          unfold acI
          rw [vu_eq, ud, if_pos rfl]
          rfl
        · rw [et, if_neg (by decide)]
          exact CPs_99 (by decide)
      · simp only [e_79_0, e_79_1, e_79_2, e_79_5, e_79_8, e_79_11, e_79_12, e_79_13, e_79_14, e_79_16, e_79_19, e_79_22, e_79_23, e_79_24, e_79_27, e_79_28, e_79_29, e_79_32, e_79_33, e_79_34, e_79_36, e_79_39, e_79_40, e_79_41, e_79_44, e_79_47, e_79_50, e_79_51, e_79_52, e_79_55, e_79_58, e_79_59, rf_0_0 hR, rf_0_1 hR, rf_0_2 hR, rf_0_3 hR, rf_0_4 hR, rf_0_5 hR, rf_0_6 hR, rf_1_0 hR, rf_3_0 hR, rf_3_2 hR, rf_4_3 hR, rf_4_4 hR, rf_4_5 hR, rf_4_6 hR, rf_4_7 hR, rf_4_8 hR, rf_4_9 hR, rf_12_1 hR, rf_13_3 hR, rf_13_4 hR, rf_13_5 hR, rf_13_6 hR, rf_13_7 hR, rf_13_8 hR, rf_13_9 hR, rf_21_0 hR, rf_21_1 hR, rf_24_0 hR, rf_25_0 hR, rf_26_0 hR, rf_26_1 hR, rf_26_2 hR, rf_26_3 hR, rf_26_4 hR, rf_26_5 hR, rf_26_6 hR, rf_26_7 hR, rf_27_0 hR, rf_27_1 hR, rf_30_0 hR, rf_30_1 hR, rf_33_0 hR, rf_33_1 hR, rf_36_0 hR, rf_36_1 hR, rf_39_0 hR, rf_39_1 hR, rf_42_0 hR, rf_42_1 hR, rf_45_0 hR, rf_45_1 hR, rf_48_0 hR, rf_48_1 hR, rf_51_0 hR, rf_51_1 hR, rf_51_6 hR, rf_51_7 hR, rf_h_3 hR, rf_d_3 hR, rf_h_4 hR, rf_d_4 hR, rf_h_5 hR, rf_d_5 hR, rf_h_6 hR, rf_d_6 hR, rf_h_7 hR, rf_d_7 hR, rf_h_8 hR, rf_d_8 hR, rf_h_9 hR, rf_d_9 hR, rf_12_0 hR, rf_3_1 hR, kn_0, kn_1, kn_2, kn_3, kn_4, kn_5, kn_6, kn_7, kn_8, kn_9, kn_10, kn_11, kn_12, kn_13, kn_14, kn_15, kn_16, kn_17, kn_18, kn_19, kn_20, kn_21, kn_22, kn_23, kn_24, kn_25, kn_26, kn_27, kn_28, kn_29, kn_30, kn_31, kn_32, kn_33, kn_34, kn_35, kn_36, kn_37, kn_38, kn_39, kn_40, kn_41, kn_42, kn_43, kn_44, kn_45, kn_46, kn_47, kn_48, kn_49, kn_50, kn_51, kn_52, kn_53, kn_54, kn_55, ln_2, ln_5, ln_6, ln_7, ln_8, ln_9, ln_10, ln_11, ln_14, ln_15, ln_16, ln_17, ln_18, ln_19, ln_20, ln_22, ln_23, ln_26, ln_28, ln_29, ln_31, ln_32, ln_34, ln_35, ln_37, ln_38, ln_40, ln_41, ln_43, ln_44, ln_46, ln_47, ln_49, ln_50, ln_52, kn_h hR, lt_h hR, kn_h1 hR, ln_h1 hR, lt_h1 hR, kn_h2 hR, ln_h2 hR, lt_h2 hR, kn_h3 hR, ln_h3 hR, lt_h3 hR, kn_h4 hR, ln_h4 hR, lt_h4 hR, kn_h5 hR, ln_h5 hR, lt_h5 hR, kn_h6 hR, ln_h6 hR, lt_h6 hR, kn_h7 hR, ln_h7 hR, lt_h7 hR, kn_d hR, lt_d hR, kn_d1 hR, ln_d1 hR, lt_d1 hR, kn_d2 hR, ln_d2 hR, lt_d2 hR, kn_d3 hR, ln_d3 hR, lt_d3 hR, kn_d4 hR, ln_d4 hR, lt_d4 hR, kn_d5 hR, ln_d5 hR, lt_d5 hR, kn_d6 hR, ln_d6 hR, lt_d6 hR, kn_d7 hR, ln_d7 hR, lt_d7 hR, va_rf_some, push_s, push_n, nb0, nb1, nbb, Nat.reduceLT, hn_s4, rp, q1, b2i_0, sk, decide_eq_false q2, en, Bool.true_eq_false, if_false, if_true]
        unfold tk2
        rw [if_pos q1, et]
        by_cases q5 : phP c wn 1 = c
        · rw [if_pos q5, if_pos q5]
          rfl
        · rw [if_neg q5, if_neg q5]
          rfl
  · have q1' : phOk c wn 1 = false := by simpa using q1
    have et : tk2 c wn = 99 := by
      unfold tk2
      rw [q1', if_neg (by decide)]
    rw [et]
    refine ⟨hn (cphS I 53 c wn 1) (phP c wn 1), frP_hn f2, CPs_99 (by decide), fun Q => ?_⟩
    simp only [e_79_0, e_79_1, e_79_2, e_79_5, e_79_8, e_79_11, e_79_12, e_79_13, e_79_14, e_79_16, e_79_19, e_79_22, e_79_23, e_79_24, e_79_27, e_79_28, e_79_29, e_79_32, e_79_33, e_79_34, e_79_36, e_79_39, e_79_40, e_79_41, e_79_44, e_79_47, e_79_50, e_79_51, e_79_52, e_79_55, e_79_58, e_79_59, rf_0_0 hR, rf_0_1 hR, rf_0_2 hR, rf_0_3 hR, rf_0_4 hR, rf_0_5 hR, rf_0_6 hR, rf_1_0 hR, rf_3_0 hR, rf_3_2 hR, rf_4_3 hR, rf_4_4 hR, rf_4_5 hR, rf_4_6 hR, rf_4_7 hR, rf_4_8 hR, rf_4_9 hR, rf_12_1 hR, rf_13_3 hR, rf_13_4 hR, rf_13_5 hR, rf_13_6 hR, rf_13_7 hR, rf_13_8 hR, rf_13_9 hR, rf_21_0 hR, rf_21_1 hR, rf_24_0 hR, rf_25_0 hR, rf_26_0 hR, rf_26_1 hR, rf_26_2 hR, rf_26_3 hR, rf_26_4 hR, rf_26_5 hR, rf_26_6 hR, rf_26_7 hR, rf_27_0 hR, rf_27_1 hR, rf_30_0 hR, rf_30_1 hR, rf_33_0 hR, rf_33_1 hR, rf_36_0 hR, rf_36_1 hR, rf_39_0 hR, rf_39_1 hR, rf_42_0 hR, rf_42_1 hR, rf_45_0 hR, rf_45_1 hR, rf_48_0 hR, rf_48_1 hR, rf_51_0 hR, rf_51_1 hR, rf_51_6 hR, rf_51_7 hR, rf_h_3 hR, rf_d_3 hR, rf_h_4 hR, rf_d_4 hR, rf_h_5 hR, rf_d_5 hR, rf_h_6 hR, rf_d_6 hR, rf_h_7 hR, rf_d_7 hR, rf_h_8 hR, rf_d_8 hR, rf_h_9 hR, rf_d_9 hR, rf_12_0 hR, rf_3_1 hR, kn_0, kn_1, kn_2, kn_3, kn_4, kn_5, kn_6, kn_7, kn_8, kn_9, kn_10, kn_11, kn_12, kn_13, kn_14, kn_15, kn_16, kn_17, kn_18, kn_19, kn_20, kn_21, kn_22, kn_23, kn_24, kn_25, kn_26, kn_27, kn_28, kn_29, kn_30, kn_31, kn_32, kn_33, kn_34, kn_35, kn_36, kn_37, kn_38, kn_39, kn_40, kn_41, kn_42, kn_43, kn_44, kn_45, kn_46, kn_47, kn_48, kn_49, kn_50, kn_51, kn_52, kn_53, kn_54, kn_55, ln_2, ln_5, ln_6, ln_7, ln_8, ln_9, ln_10, ln_11, ln_14, ln_15, ln_16, ln_17, ln_18, ln_19, ln_20, ln_22, ln_23, ln_26, ln_28, ln_29, ln_31, ln_32, ln_34, ln_35, ln_37, ln_38, ln_40, ln_41, ln_43, ln_44, ln_46, ln_47, ln_49, ln_50, ln_52, kn_h hR, lt_h hR, kn_h1 hR, ln_h1 hR, lt_h1 hR, kn_h2 hR, ln_h2 hR, lt_h2 hR, kn_h3 hR, ln_h3 hR, lt_h3 hR, kn_h4 hR, ln_h4 hR, lt_h4 hR, kn_h5 hR, ln_h5 hR, lt_h5 hR, kn_h6 hR, ln_h6 hR, lt_h6 hR, kn_h7 hR, ln_h7 hR, lt_h7 hR, kn_d hR, lt_d hR, kn_d1 hR, ln_d1 hR, lt_d1 hR, kn_d2 hR, ln_d2 hR, lt_d2 hR, kn_d3 hR, ln_d3 hR, lt_d3 hR, kn_d4 hR, ln_d4 hR, lt_d4 hR, kn_d5 hR, ln_d5 hR, lt_d5 hR, kn_d6 hR, ln_d6 hR, lt_d6 hR, kn_d7 hR, ln_d7 hR, lt_d7 hR, va_rf_some, push_s, push_n, nb0, nb1, nbb, Nat.reduceLT, rp, q1', b2i_0, if_true]
    rfl
theorem k_put (hR : tRef h d R) (hS : WSc I c wn) : SRc E J R 81 [.ref 51] (hn I 1) I c wn 1 (ptC c wn) := by
  have f2 : frP I (cphS I 53 c wn 1) := frP_cph (frP_refl I) (Or.inl rfl)
  have hS2 := WSc_fr f2 hS
  have hl := phP_le c wn 1
  have hl2 := phP_le c wn (phP c wn 1 + 1)
  have rp := fun {Q} => c_readPhrase (E := E) (Q := Q) (J := J) hR hS (a := 1) (by decide) (cell := 53) (Or.inl rfl)
  have pk := fun {Q} => c_peek (E := E) (Q := Q) (J := J) hR hS2 (a := phP c wn 1) (by omega)
  have e32 : (wv c wn (phP c wn 1) = 32) = (wo c wn (phP c wn 1) = 32) := by
    apply propext
    rcases wv_cs hS (phP c wn 1) with ⟨q1, q2, -⟩ | ⟨q1, q2, -⟩
    · rw [q2, show (32 : Int32) = nI 32 from rfl, nI_eq (by omega) (by omega)]
    · rw [q1, q2]
      exact ⟨fun e => absurd e (by decide), fun e => by omega⟩
  by_cases q1 : phOk c wn 1 = true
  · have hb : ∀ v : Int32, frP I (acI (cphS I 53 c wn 1) v) := fun v => frP_51 f2 (by decide)
    have hSb := fun v => WSc_fr (hb v) hS
    have hc2 : ∀ v : Int32, frP I (cphS (acI (cphS I 53 c wn 1) v) 54 c wn (phP c wn 1 + 1)) := fun v => frP_cph (hb v) (Or.inr rfl)
    have hSc := fun v => WSc_fr (hc2 v) hS
    have s32 := fun {Q} v => c_skip (E := E) (Q := Q) (J := J) hR (hSb v) (a := phP c wn 1) (by omega) (x := 32) (by decide)
    rw [show nI 32 = 32 from rfl] at s32
    have s33 := fun {Q} v => c_skip (E := E) (Q := Q) (J := J) hR (hSb v) (a := phP c wn 1) (by omega) (x := 33) (by decide)
    rw [show nI 33 = 33 from rfl] at s33
    have rp2 := fun {Q} v => c_readPhrase (E := E) (Q := Q) (J := J) hR (hSb v) (a := phP c wn 1 + 1) (by omega) (cell := 54) (Or.inr rfl)
    have en := fun {Q} v => c_endOf (E := E) (Q := Q) (J := J) hR (hSc v) (a := phP c wn (phP c wn 1 + 1)) (v := 1) (by omega)
    have pre : ∀ (v : Int32) (code : Nat), code < 12 → v = nI code → (t2Ok c wn (if code = 2 then 32 else 33) 1 = true → CPs (hn (cphS (acI (cphS I 53 c wn 1) v) 54 c wn (phP c wn 1 + 1)) (phP c wn (phP c wn 1 + 1))) c wn 1 code) := fun v code hc hv _ => by
      refine fun _ => ⟨?_, ?_, fun _ => CPH_is (Or.inr rfl)⟩
      · rw [hn_4]
        unfold cphS acI
        split <;> rw [vu, if_neg (by decide), vu_eq, ud, if_pos rfl] <;> exact hv
      · have e : ∀ p, hn (cphS (acI (cphS I 53 c wn 1) v) 54 c wn (phP c wn 1 + 1)) p 53 = hn (cphS I 53 c wn 1) p 53 := fun p => by
          rw [hn_53, hn_53]
          generalize cphS I 53 c wn 1 = B
          unfold cphS acI
          split <;> rw [vu, if_neg (by decide), vu, if_neg (by decide)]
        unfold CPH
        rw [e]
        exact CPH_is (Or.inl rfl)
    by_cases q2 : wo c wn (phP c wn 1) = 32
    · have eo : ow c wn 32 (phP c wn 1) = phP c wn 1 + 1 := if_pos q2
      rw [eo] at s32
      have no3 : t2Ok c wn 33 1 = false := by
        unfold t2Ok
        rw [decide_eq_false (show ¬ wo c wn (phP c wn 1) = 33 by omega)]
        simp
      refine ⟨hn (cphS (acI (cphS I 53 c wn 1) 2) 54 c wn (phP c wn 1 + 1)) (phP c wn (phP c wn 1 + 1)), frP_hn (hc2 2), ?_, fun Q => ?_⟩
      · unfold ptC
        split
        · rename_i q
          exact pre 2 2 (by decide) rfl q
        · rw [no3, if_neg (by decide)]
          exact CPs_99 (by decide)
      · simp only [e_81_0, e_81_1, e_81_2, e_81_5, e_81_8, e_81_11, e_81_12, e_81_13, e_81_14, e_81_15, e_81_18, e_81_20, e_81_23, e_81_24, e_81_27, e_81_28, e_81_31, e_81_32, e_81_34, e_81_37, e_81_40, e_81_41, e_81_43, e_81_46, e_81_49, e_81_50, e_81_51, e_81_54, e_81_57, e_81_60, e_81_61, e_81_62, e_81_65, e_81_68, e_81_69, rf_0_0 hR, rf_0_1 hR, rf_0_2 hR, rf_0_3 hR, rf_0_4 hR, rf_0_5 hR, rf_0_6 hR, rf_1_0 hR, rf_3_0 hR, rf_3_2 hR, rf_4_3 hR, rf_4_4 hR, rf_4_5 hR, rf_4_6 hR, rf_4_7 hR, rf_4_8 hR, rf_4_9 hR, rf_12_1 hR, rf_13_3 hR, rf_13_4 hR, rf_13_5 hR, rf_13_6 hR, rf_13_7 hR, rf_13_8 hR, rf_13_9 hR, rf_21_0 hR, rf_21_1 hR, rf_24_0 hR, rf_25_0 hR, rf_26_0 hR, rf_26_1 hR, rf_26_2 hR, rf_26_3 hR, rf_26_4 hR, rf_26_5 hR, rf_26_6 hR, rf_26_7 hR, rf_27_0 hR, rf_27_1 hR, rf_30_0 hR, rf_30_1 hR, rf_33_0 hR, rf_33_1 hR, rf_36_0 hR, rf_36_1 hR, rf_39_0 hR, rf_39_1 hR, rf_42_0 hR, rf_42_1 hR, rf_45_0 hR, rf_45_1 hR, rf_48_0 hR, rf_48_1 hR, rf_51_0 hR, rf_51_1 hR, rf_51_6 hR, rf_51_7 hR, rf_h_3 hR, rf_d_3 hR, rf_h_4 hR, rf_d_4 hR, rf_h_5 hR, rf_d_5 hR, rf_h_6 hR, rf_d_6 hR, rf_h_7 hR, rf_d_7 hR, rf_h_8 hR, rf_d_8 hR, rf_h_9 hR, rf_d_9 hR, rf_12_0 hR, rf_3_1 hR, kn_0, kn_1, kn_2, kn_3, kn_4, kn_5, kn_6, kn_7, kn_8, kn_9, kn_10, kn_11, kn_12, kn_13, kn_14, kn_15, kn_16, kn_17, kn_18, kn_19, kn_20, kn_21, kn_22, kn_23, kn_24, kn_25, kn_26, kn_27, kn_28, kn_29, kn_30, kn_31, kn_32, kn_33, kn_34, kn_35, kn_36, kn_37, kn_38, kn_39, kn_40, kn_41, kn_42, kn_43, kn_44, kn_45, kn_46, kn_47, kn_48, kn_49, kn_50, kn_51, kn_52, kn_53, kn_54, kn_55, ln_2, ln_5, ln_6, ln_7, ln_8, ln_9, ln_10, ln_11, ln_14, ln_15, ln_16, ln_17, ln_18, ln_19, ln_20, ln_22, ln_23, ln_26, ln_28, ln_29, ln_31, ln_32, ln_34, ln_35, ln_37, ln_38, ln_40, ln_41, ln_43, ln_44, ln_46, ln_47, ln_49, ln_50, ln_52, kn_h hR, lt_h hR, kn_h1 hR, ln_h1 hR, lt_h1 hR, kn_h2 hR, ln_h2 hR, lt_h2 hR, kn_h3 hR, ln_h3 hR, lt_h3 hR, kn_h4 hR, ln_h4 hR, lt_h4 hR, kn_h5 hR, ln_h5 hR, lt_h5 hR, kn_h6 hR, ln_h6 hR, lt_h6 hR, kn_h7 hR, ln_h7 hR, lt_h7 hR, kn_d hR, lt_d hR, kn_d1 hR, ln_d1 hR, lt_d1 hR, kn_d2 hR, ln_d2 hR, lt_d2 hR, kn_d3 hR, ln_d3 hR, lt_d3 hR, kn_d4 hR, ln_d4 hR, lt_d4 hR, kn_d5 hR, ln_d5 hR, lt_d5 hR, kn_d6 hR, ln_d6 hR, lt_d6 hR, kn_d7 hR, ln_d7 hR, lt_d7 hR, va_rf_some, push_s, push_n, nb0, nb1, nbb, Nat.reduceLT, hn_s4, rp, q1, b2i_0, pk, e32, q2, s32, decide_eq_true q2, rp2, en, Bool.true_eq_false, if_false, if_true, decide_true]
        unfold ptC
        rw [no3]
        unfold t2Ok
        rw [q1, decide_eq_true q2]
        cases q4 : phOk c wn (phP c wn 1 + 1) with
        | false =>
          rw [if_pos rfl, if_neg (by simp)]
          rfl
        | true =>
          rw [if_neg (by decide)]
          by_cases q5 : phP c wn (phP c wn 1 + 1) = c
          · rw [if_pos q5, if_pos (by simp [q5])]
            rfl
          · rw [if_neg q5, if_neg (by simp [q5])]
            rfl
    · have eo : ow c wn 32 (phP c wn 1) = phP c wn 1 := if_neg q2
      rw [eo] at s32
      have no2 : t2Ok c wn 32 1 = false := by
        unfold t2Ok
        rw [decide_eq_false q2]
        simp
      by_cases q3 : wo c wn (phP c wn 1) = 33
      · have eo3 : ow c wn 33 (phP c wn 1) = phP c wn 1 + 1 := if_pos q3
        rw [eo3] at s33
        refine ⟨hn (cphS (acI (cphS I 53 c wn 1) 3) 54 c wn (phP c wn 1 + 1)) (phP c wn (phP c wn 1 + 1)), frP_hn (hc2 3), ?_, fun Q => ?_⟩
        · unfold ptC
          rw [no2, if_neg (by decide)]
          split
          · rename_i q
            exact pre 3 3 (by decide) rfl q
          · exact CPs_99 (by decide)
        · simp only [e_81_0, e_81_1, e_81_2, e_81_5, e_81_8, e_81_11, e_81_12, e_81_13, e_81_14, e_81_15, e_81_18, e_81_20, e_81_23, e_81_24, e_81_27, e_81_28, e_81_31, e_81_32, e_81_34, e_81_37, e_81_40, e_81_41, e_81_43, e_81_46, e_81_49, e_81_50, e_81_51, e_81_54, e_81_57, e_81_60, e_81_61, e_81_62, e_81_65, e_81_68, e_81_69, rf_0_0 hR, rf_0_1 hR, rf_0_2 hR, rf_0_3 hR, rf_0_4 hR, rf_0_5 hR, rf_0_6 hR, rf_1_0 hR, rf_3_0 hR, rf_3_2 hR, rf_4_3 hR, rf_4_4 hR, rf_4_5 hR, rf_4_6 hR, rf_4_7 hR, rf_4_8 hR, rf_4_9 hR, rf_12_1 hR, rf_13_3 hR, rf_13_4 hR, rf_13_5 hR, rf_13_6 hR, rf_13_7 hR, rf_13_8 hR, rf_13_9 hR, rf_21_0 hR, rf_21_1 hR, rf_24_0 hR, rf_25_0 hR, rf_26_0 hR, rf_26_1 hR, rf_26_2 hR, rf_26_3 hR, rf_26_4 hR, rf_26_5 hR, rf_26_6 hR, rf_26_7 hR, rf_27_0 hR, rf_27_1 hR, rf_30_0 hR, rf_30_1 hR, rf_33_0 hR, rf_33_1 hR, rf_36_0 hR, rf_36_1 hR, rf_39_0 hR, rf_39_1 hR, rf_42_0 hR, rf_42_1 hR, rf_45_0 hR, rf_45_1 hR, rf_48_0 hR, rf_48_1 hR, rf_51_0 hR, rf_51_1 hR, rf_51_6 hR, rf_51_7 hR, rf_h_3 hR, rf_d_3 hR, rf_h_4 hR, rf_d_4 hR, rf_h_5 hR, rf_d_5 hR, rf_h_6 hR, rf_d_6 hR, rf_h_7 hR, rf_d_7 hR, rf_h_8 hR, rf_d_8 hR, rf_h_9 hR, rf_d_9 hR, rf_12_0 hR, rf_3_1 hR, kn_0, kn_1, kn_2, kn_3, kn_4, kn_5, kn_6, kn_7, kn_8, kn_9, kn_10, kn_11, kn_12, kn_13, kn_14, kn_15, kn_16, kn_17, kn_18, kn_19, kn_20, kn_21, kn_22, kn_23, kn_24, kn_25, kn_26, kn_27, kn_28, kn_29, kn_30, kn_31, kn_32, kn_33, kn_34, kn_35, kn_36, kn_37, kn_38, kn_39, kn_40, kn_41, kn_42, kn_43, kn_44, kn_45, kn_46, kn_47, kn_48, kn_49, kn_50, kn_51, kn_52, kn_53, kn_54, kn_55, ln_2, ln_5, ln_6, ln_7, ln_8, ln_9, ln_10, ln_11, ln_14, ln_15, ln_16, ln_17, ln_18, ln_19, ln_20, ln_22, ln_23, ln_26, ln_28, ln_29, ln_31, ln_32, ln_34, ln_35, ln_37, ln_38, ln_40, ln_41, ln_43, ln_44, ln_46, ln_47, ln_49, ln_50, ln_52, kn_h hR, lt_h hR, kn_h1 hR, ln_h1 hR, lt_h1 hR, kn_h2 hR, ln_h2 hR, lt_h2 hR, kn_h3 hR, ln_h3 hR, lt_h3 hR, kn_h4 hR, ln_h4 hR, lt_h4 hR, kn_h5 hR, ln_h5 hR, lt_h5 hR, kn_h6 hR, ln_h6 hR, lt_h6 hR, kn_h7 hR, ln_h7 hR, lt_h7 hR, kn_d hR, lt_d hR, kn_d1 hR, ln_d1 hR, lt_d1 hR, kn_d2 hR, ln_d2 hR, lt_d2 hR, kn_d3 hR, ln_d3 hR, lt_d3 hR, kn_d4 hR, ln_d4 hR, lt_d4 hR, kn_d5 hR, ln_d5 hR, lt_d5 hR, kn_d6 hR, ln_d6 hR, lt_d6 hR, kn_d7 hR, ln_d7 hR, lt_d7 hR, va_rf_some, push_s, push_n, nb0, nb1, nbb, Nat.reduceLT, hn_s4, rp, q1, b2i_0, pk, e32, eq_false q2, s32, decide_eq_false q2, s33, decide_eq_true q3, rp2, en, Bool.true_eq_false, if_false, if_true, decide_false]
          unfold ptC
          rw [no2]
          unfold t2Ok
          rw [q1, decide_eq_true q3]
          cases q4 : phOk c wn (phP c wn 1 + 1) with
          | false =>
            rw [if_pos rfl, if_neg (by decide), if_neg (by simp)]
            rfl
          | true =>
            rw [if_neg (by decide), if_neg (show ¬ (false = true) by decide)]
            by_cases q5 : phP c wn (phP c wn 1 + 1) = c
            · rw [if_pos q5, if_pos (by simp [q5])]
              rfl
            · rw [if_neg q5, if_neg (by simp [q5])]
              rfl
      · have eo3 : ow c wn 33 (phP c wn 1) = phP c wn 1 := if_neg q3
        rw [eo3] at s33
        have no3 : t2Ok c wn 33 1 = false := by
          unfold t2Ok
          rw [decide_eq_false q3]
          simp
        have et : ptC c wn = 99 := by
          unfold ptC
          rw [no2, no3, if_neg (by decide), if_neg (by decide)]
        rw [et]
        refine ⟨hn (acI (cphS I 53 c wn 1) 3) (phP c wn 1), frP_hn (hb 3), CPs_99 (by decide), fun Q => ?_⟩
        simp only [e_81_0, e_81_1, e_81_2, e_81_5, e_81_8, e_81_11, e_81_12, e_81_13, e_81_14, e_81_15, e_81_18, e_81_20, e_81_23, e_81_24, e_81_27, e_81_28, e_81_31, e_81_32, e_81_34, e_81_37, e_81_40, e_81_41, e_81_43, e_81_46, e_81_49, e_81_50, e_81_51, e_81_54, e_81_57, e_81_60, e_81_61, e_81_62, e_81_65, e_81_68, e_81_69, rf_0_0 hR, rf_0_1 hR, rf_0_2 hR, rf_0_3 hR, rf_0_4 hR, rf_0_5 hR, rf_0_6 hR, rf_1_0 hR, rf_3_0 hR, rf_3_2 hR, rf_4_3 hR, rf_4_4 hR, rf_4_5 hR, rf_4_6 hR, rf_4_7 hR, rf_4_8 hR, rf_4_9 hR, rf_12_1 hR, rf_13_3 hR, rf_13_4 hR, rf_13_5 hR, rf_13_6 hR, rf_13_7 hR, rf_13_8 hR, rf_13_9 hR, rf_21_0 hR, rf_21_1 hR, rf_24_0 hR, rf_25_0 hR, rf_26_0 hR, rf_26_1 hR, rf_26_2 hR, rf_26_3 hR, rf_26_4 hR, rf_26_5 hR, rf_26_6 hR, rf_26_7 hR, rf_27_0 hR, rf_27_1 hR, rf_30_0 hR, rf_30_1 hR, rf_33_0 hR, rf_33_1 hR, rf_36_0 hR, rf_36_1 hR, rf_39_0 hR, rf_39_1 hR, rf_42_0 hR, rf_42_1 hR, rf_45_0 hR, rf_45_1 hR, rf_48_0 hR, rf_48_1 hR, rf_51_0 hR, rf_51_1 hR, rf_51_6 hR, rf_51_7 hR, rf_h_3 hR, rf_d_3 hR, rf_h_4 hR, rf_d_4 hR, rf_h_5 hR, rf_d_5 hR, rf_h_6 hR, rf_d_6 hR, rf_h_7 hR, rf_d_7 hR, rf_h_8 hR, rf_d_8 hR, rf_h_9 hR, rf_d_9 hR, rf_12_0 hR, rf_3_1 hR, kn_0, kn_1, kn_2, kn_3, kn_4, kn_5, kn_6, kn_7, kn_8, kn_9, kn_10, kn_11, kn_12, kn_13, kn_14, kn_15, kn_16, kn_17, kn_18, kn_19, kn_20, kn_21, kn_22, kn_23, kn_24, kn_25, kn_26, kn_27, kn_28, kn_29, kn_30, kn_31, kn_32, kn_33, kn_34, kn_35, kn_36, kn_37, kn_38, kn_39, kn_40, kn_41, kn_42, kn_43, kn_44, kn_45, kn_46, kn_47, kn_48, kn_49, kn_50, kn_51, kn_52, kn_53, kn_54, kn_55, ln_2, ln_5, ln_6, ln_7, ln_8, ln_9, ln_10, ln_11, ln_14, ln_15, ln_16, ln_17, ln_18, ln_19, ln_20, ln_22, ln_23, ln_26, ln_28, ln_29, ln_31, ln_32, ln_34, ln_35, ln_37, ln_38, ln_40, ln_41, ln_43, ln_44, ln_46, ln_47, ln_49, ln_50, ln_52, kn_h hR, lt_h hR, kn_h1 hR, ln_h1 hR, lt_h1 hR, kn_h2 hR, ln_h2 hR, lt_h2 hR, kn_h3 hR, ln_h3 hR, lt_h3 hR, kn_h4 hR, ln_h4 hR, lt_h4 hR, kn_h5 hR, ln_h5 hR, lt_h5 hR, kn_h6 hR, ln_h6 hR, lt_h6 hR, kn_h7 hR, ln_h7 hR, lt_h7 hR, kn_d hR, lt_d hR, kn_d1 hR, ln_d1 hR, lt_d1 hR, kn_d2 hR, ln_d2 hR, lt_d2 hR, kn_d3 hR, ln_d3 hR, lt_d3 hR, kn_d4 hR, ln_d4 hR, lt_d4 hR, kn_d5 hR, ln_d5 hR, lt_d5 hR, kn_d6 hR, ln_d6 hR, lt_d6 hR, kn_d7 hR, ln_d7 hR, lt_d7 hR, va_rf_some, push_s, push_n, nb0, nb1, nbb, Nat.reduceLT, hn_s4, rp, q1, b2i_0, pk, e32, eq_false q2, s32, decide_eq_false q2, s33, decide_eq_false q3, Bool.true_eq_false, if_false, if_true]
        rfl
  · have q1' : phOk c wn 1 = false := by simpa using q1
    have et : ptC c wn = 99 := by
      unfold ptC t2Ok
      rw [q1', if_neg (by simp), if_neg (by simp)]
    rw [et]
    refine ⟨hn (cphS I 53 c wn 1) (phP c wn 1), frP_hn f2, CPs_99 (by decide), fun Q => ?_⟩
    simp only [e_81_0, e_81_1, e_81_2, e_81_5, e_81_8, e_81_11, e_81_12, e_81_13, e_81_14, e_81_15, e_81_18, e_81_20, e_81_23, e_81_24, e_81_27, e_81_28, e_81_31, e_81_32, e_81_34, e_81_37, e_81_40, e_81_41, e_81_43, e_81_46, e_81_49, e_81_50, e_81_51, e_81_54, e_81_57, e_81_60, e_81_61, e_81_62, e_81_65, e_81_68, e_81_69, rf_0_0 hR, rf_0_1 hR, rf_0_2 hR, rf_0_3 hR, rf_0_4 hR, rf_0_5 hR, rf_0_6 hR, rf_1_0 hR, rf_3_0 hR, rf_3_2 hR, rf_4_3 hR, rf_4_4 hR, rf_4_5 hR, rf_4_6 hR, rf_4_7 hR, rf_4_8 hR, rf_4_9 hR, rf_12_1 hR, rf_13_3 hR, rf_13_4 hR, rf_13_5 hR, rf_13_6 hR, rf_13_7 hR, rf_13_8 hR, rf_13_9 hR, rf_21_0 hR, rf_21_1 hR, rf_24_0 hR, rf_25_0 hR, rf_26_0 hR, rf_26_1 hR, rf_26_2 hR, rf_26_3 hR, rf_26_4 hR, rf_26_5 hR, rf_26_6 hR, rf_26_7 hR, rf_27_0 hR, rf_27_1 hR, rf_30_0 hR, rf_30_1 hR, rf_33_0 hR, rf_33_1 hR, rf_36_0 hR, rf_36_1 hR, rf_39_0 hR, rf_39_1 hR, rf_42_0 hR, rf_42_1 hR, rf_45_0 hR, rf_45_1 hR, rf_48_0 hR, rf_48_1 hR, rf_51_0 hR, rf_51_1 hR, rf_51_6 hR, rf_51_7 hR, rf_h_3 hR, rf_d_3 hR, rf_h_4 hR, rf_d_4 hR, rf_h_5 hR, rf_d_5 hR, rf_h_6 hR, rf_d_6 hR, rf_h_7 hR, rf_d_7 hR, rf_h_8 hR, rf_d_8 hR, rf_h_9 hR, rf_d_9 hR, rf_12_0 hR, rf_3_1 hR, kn_0, kn_1, kn_2, kn_3, kn_4, kn_5, kn_6, kn_7, kn_8, kn_9, kn_10, kn_11, kn_12, kn_13, kn_14, kn_15, kn_16, kn_17, kn_18, kn_19, kn_20, kn_21, kn_22, kn_23, kn_24, kn_25, kn_26, kn_27, kn_28, kn_29, kn_30, kn_31, kn_32, kn_33, kn_34, kn_35, kn_36, kn_37, kn_38, kn_39, kn_40, kn_41, kn_42, kn_43, kn_44, kn_45, kn_46, kn_47, kn_48, kn_49, kn_50, kn_51, kn_52, kn_53, kn_54, kn_55, ln_2, ln_5, ln_6, ln_7, ln_8, ln_9, ln_10, ln_11, ln_14, ln_15, ln_16, ln_17, ln_18, ln_19, ln_20, ln_22, ln_23, ln_26, ln_28, ln_29, ln_31, ln_32, ln_34, ln_35, ln_37, ln_38, ln_40, ln_41, ln_43, ln_44, ln_46, ln_47, ln_49, ln_50, ln_52, kn_h hR, lt_h hR, kn_h1 hR, ln_h1 hR, lt_h1 hR, kn_h2 hR, ln_h2 hR, lt_h2 hR, kn_h3 hR, ln_h3 hR, lt_h3 hR, kn_h4 hR, ln_h4 hR, lt_h4 hR, kn_h5 hR, ln_h5 hR, lt_h5 hR, kn_h6 hR, ln_h6 hR, lt_h6 hR, kn_h7 hR, ln_h7 hR, lt_h7 hR, kn_d hR, lt_d hR, kn_d1 hR, ln_d1 hR, lt_d1 hR, kn_d2 hR, ln_d2 hR, lt_d2 hR, kn_d3 hR, ln_d3 hR, lt_d3 hR, kn_d4 hR, ln_d4 hR, lt_d4 hR, kn_d5 hR, ln_d5 hR, lt_d5 hR, kn_d6 hR, ln_d6 hR, lt_d6 hR, kn_d7 hR, ln_d7 hR, lt_d7 hR, va_rf_some, push_s, push_n, nb0, nb1, nbb, Nat.reduceLT, rp, q1', b2i_0, if_true]
    rfl
end G3
