/-! ===== the model's constructor: the first house is read and laid ===== -/
/-- the text as written so far, over I0 -/
def mfI (I0 I : Nat → Nat → Int32) (i : Nat) : Prop := (∀ c, c ≠ 56 → c ≠ 66 → I c = I0 c) ∧ (∀ k, k ≠ 13 → I 56 k = 0) ∧ I 56 13 = nI i ∧ ∀ p, I 66 p = if p < i then nI (chN 1 p) else 0
theorem lt_112 : ∀ i, i < 112 → tm_inb (nI i / 8) 14 = true := by decide +kernel
section M8
variable {E : tm_Env} {I0 I : Nat → Nat → Int32} {J : Nat → Nat → Int64} {R : Nat → Nat → Option Nat} {h d : Nat}
theorem m_app (hR : tRef h d R) (hJ : JL J) : ∀ j i (I : Nat → Nat → Int32) (l2 : Value), i + j = 112 → mfI I0 I (pw i) → ∃ I' l3, mfI I0 I' 109 ∧ ∀ Q, tEv E 64 607 [.ref 56, .int (nI i), l2] [] ((tL, I, J, R), (27, 1184)) Q = tEv E 64 661 [.ref 56, .int (nI 112), l3] [] ((tL, I', J, R), (27, 1184)) Q
  | 0, i, I, l2, hj, hi => by
    obtain rfl : i = 112 := by omega
    have h112 : (8 : Int32) * Int32.ofNat 14 = 112 := by decide
    have hn : (nI 112 < (112 : Int32)) = False := eq_false (by decide)
    refine ⟨I, l2, hi, fun Q => ?_⟩
    rw [e_64_607]
    simp only [e_64_608, e_64_610, e_64_611, e_64_614, e_64_615, e_64_616, rf_56_0 hR, rf_56_4 hR, rf_56_5 hR, rf_56_6 hR, rf_56_7 hR, rf_56_8 hR, rf_56_9 hR, rf_56_10 hR, rf_56_11 hR, rf_56_12 hR, rf_56_14 hR, rf_56_15 hR, rf_56_19 hR, rf_56_20 hR, rf_56_21 hR, rf_56_22 hR, rf_56_23 hR, rf_56_24 hR, rf_56_25 hR, rf_56_26 hR, rf_56_27 hR, rf_56_29 hR, rf_56_32 hR, rf_56_33 hR, rf_56_34 hR, rf_56_37 hR, rf_56_38 hR, kn_56, kn_57, kn_58, kn_59, kn_60, kn_61, kn_62, kn_63, kn_64, kn_65, kn_66, kn_67, kn_68, kn_69, kn_70, kn_71, kn_72, kn_73, kn_74, kn_75, kn_76, kn_77, kn_78, kn_79, kn_80, kn_81, kn_82, kn_83, ln_57, ln_58, ln_59, ln_60, ln_61, ln_62, ln_63, ln_64, ln_65, ln_66, ln_67, ln_68, ln_69, ln_70, ln_71, ln_72, ln_73, ln_74, ln_75, ln_76, ln_77, ln_78, ln_79, ln_80, ln_81, ln_82, ln_83, va_rf_some, push_s, push_n, nb0, nb1, nbb, Nat.reduceLT, h112, hn, if_false]
  | j + 1, i, I, l2, hj, hi => by
    have hn : (nI i < (112 : Int32)) = True := eq_true (nI_lt (b := 112) (by omega) (by omega))
    have h112 : (8 : Int32) * Int32.ofNat 14 = 112 := by decide
    have h80 : ((8 : Int32) = 0) = False := eq_false (by decide)
    have hix := lt_112 i (by omega)
    have hl := hJ i (by omega)
    by_cases hz : 104 ≤ i ∧ i < 107
    · have e1 : lc i = 0 := if_pos hz
      rw [e1] at hl
      have e2 : pw (i + 1) = pw i := by
        unfold pw
        rw [if_neg (by omega), if_neg (show ¬ i < 104 by omega), if_pos hz.2]
        split <;> omega
      have hp : ((0 : Int32) < nI 0) = False := eq_false (by decide)
      obtain ⟨I', l3, hf, st⟩ := m_app hR hJ j (i + 1) I (.int (nI 0)) (by omega) (by rw [e2]; exact hi)
      refine ⟨I', l3, hf, fun Q => ?_⟩
      rw [← st Q, e_64_607]
      simp only [e_64_608, e_64_610, e_64_611, e_64_614, e_64_615, e_64_616, e_64_619, e_64_620, e_64_623, e_64_624, e_64_626, e_64_627, e_64_628, e_64_630, e_64_632, e_64_633, e_64_635, e_64_636, e_64_637, e_64_638, e_64_639, e_64_642, e_64_643, e_64_644, e_64_645, e_64_646, e_64_649, e_64_650, e_64_654, e_64_655, e_64_658, e_64_651, rf_56_0 hR, rf_56_4 hR, rf_56_5 hR, rf_56_6 hR, rf_56_7 hR, rf_56_8 hR, rf_56_9 hR, rf_56_10 hR, rf_56_11 hR, rf_56_12 hR, rf_56_14 hR, rf_56_15 hR, rf_56_19 hR, rf_56_20 hR, rf_56_21 hR, rf_56_22 hR, rf_56_23 hR, rf_56_24 hR, rf_56_25 hR, rf_56_26 hR, rf_56_27 hR, rf_56_29 hR, rf_56_32 hR, rf_56_33 hR, rf_56_34 hR, rf_56_37 hR, rf_56_38 hR, kn_56, kn_57, kn_58, kn_59, kn_60, kn_61, kn_62, kn_63, kn_64, kn_65, kn_66, kn_67, kn_68, kn_69, kn_70, kn_71, kn_72, kn_73, kn_74, kn_75, kn_76, kn_77, kn_78, kn_79, kn_80, kn_81, kn_82, kn_83, ln_57, ln_58, ln_59, ln_60, ln_61, ln_62, ln_63, ln_64, ln_65, ln_66, ln_67, ln_68, ln_69, ln_70, ln_71, ln_72, ln_73, ln_74, ln_75, ln_76, ln_77, ln_78, ln_79, ln_80, ln_81, ln_82, ln_83, va_rf_some, push_s, push_n, nb0, nb1, nbb, Nat.reduceLT, h112, hn, if_true, h80, not_false_eq_true, hix, hl, hp, if_false, nI_1]
    · have e1 : lc i = chN 1 (pw i) := if_neg hz
      have hw : pw i < 109 := by
        unfold pw
        split
        · omega
        · split <;> omega
      have e2 : pw (i + 1) = pw i + 1 := by
        unfold pw
        by_cases c : i < 104
        · rw [if_pos c]
          by_cases c2 : i + 1 < 104
          · rw [if_pos c2]
          · rw [if_neg c2, if_pos (by omega)]
            omega
        · rw [if_neg c, if_neg (by omega), if_neg (by omega), if_neg (by omega)]
          omega
      rw [e1] at hl
      generalize pw i = p at hi hl hw e2
      obtain ⟨z, y, l, t⟩ := hi
      obtain ⟨g1, g2⟩ := ch_32 p hw
      have hp : ((0 : Int32) < nI (chN 1 p)) = True := eq_true (nI_lt (a := 0) (b := chN 1 p) (by omega) (by omega))
      have hx : decide ((32 : Int32) ≤ nI (chN 1 p) ∧ nI (chN 1 p) ≤ 126) = true := decide_eq_true ⟨nI_le (a := 32) (b := chN 1 p) g1 (by omega), nI_le (a := chN 1 p) (b := 126) g2 (by omega)⟩
      have hw := fun {Q} => m_write_2 (E := E) (Q := Q) (J := J) hR hx (n := p) (by omega) l
      obtain ⟨I', l3, hf, st⟩ := m_app hR hJ j (i + 1) (va_up (va_up I 66 (upd (I 66) p (nI (chN 1 p)))) 56 (upd (I 56) 13 (nI (p + 1)))) (.int (nI (chN 1 p))) (by omega) (by
        rw [e2]
        refine ⟨fun c c1 c2 => by rw [vu, if_neg c1, vu, if_neg c2, z c c1 c2], fun k hk => by rw [vu_eq, ud, if_neg hk, y k hk], rfl, fun q => ?_⟩
        rw [vu, if_neg (by decide), vu_eq, ud, t q]
        by_cases e : q = p
        · rw [if_pos e, if_pos (by omega), e]
        · rw [if_neg e]
          by_cases e2 : q < p
          · rw [if_pos e2, if_pos (by omega)]
          · rw [if_neg e2, if_neg (by omega)])
      refine ⟨I', l3, hf, fun Q => ?_⟩
      rw [← st Q, e_64_607]
      simp only [e_64_608, e_64_610, e_64_611, e_64_614, e_64_615, e_64_616, e_64_619, e_64_620, e_64_623, e_64_624, e_64_626, e_64_627, e_64_628, e_64_630, e_64_632, e_64_633, e_64_635, e_64_636, e_64_637, e_64_638, e_64_639, e_64_642, e_64_643, e_64_644, e_64_645, e_64_646, e_64_649, e_64_650, e_64_654, e_64_655, e_64_658, e_64_651, rf_56_0 hR, rf_56_4 hR, rf_56_5 hR, rf_56_6 hR, rf_56_7 hR, rf_56_8 hR, rf_56_9 hR, rf_56_10 hR, rf_56_11 hR, rf_56_12 hR, rf_56_14 hR, rf_56_15 hR, rf_56_19 hR, rf_56_20 hR, rf_56_21 hR, rf_56_22 hR, rf_56_23 hR, rf_56_24 hR, rf_56_25 hR, rf_56_26 hR, rf_56_27 hR, rf_56_29 hR, rf_56_32 hR, rf_56_33 hR, rf_56_34 hR, rf_56_37 hR, rf_56_38 hR, kn_56, kn_57, kn_58, kn_59, kn_60, kn_61, kn_62, kn_63, kn_64, kn_65, kn_66, kn_67, kn_68, kn_69, kn_70, kn_71, kn_72, kn_73, kn_74, kn_75, kn_76, kn_77, kn_78, kn_79, kn_80, kn_81, kn_82, kn_83, ln_57, ln_58, ln_59, ln_60, ln_61, ln_62, ln_63, ln_64, ln_65, ln_66, ln_67, ln_68, ln_69, ln_70, ln_71, ln_72, ln_73, ln_74, ln_75, ln_76, ln_77, ln_78, ln_79, ln_80, ln_81, ln_82, ln_83, va_rf_some, push_s, push_n, nb0, nb1, nbb, Nat.reduceLT, h112, hn, if_true, h80, not_false_eq_true, hix, hl, hp, hw, Nat.add_zero, Nat.reduceLeDiff, Nat.le_refl, nI_1]
theorem mk_end (hR : tRef h d R) {n : Nat} {tc : Nat → Nat} (hT : TX I n tc) {I' : Nat → Nat → Int32} {nr' nt' : Nat} (he : rds n tc (n + 1) (rd0 I) 0 0 0 = (none, I', nr', nt')) (h0 : 0 < nr') {l1 l2 : Value} {Q : Option Int32 → tm_St → Prop} : tEv E 64 661 [.ref 56, l1, l2] [] ((tL, I, J, R), (27, 1184)) Q = Q none ((tL, va_up (laid (hr I' n) nr' nt') 56 (upd (laid (hr I' n) nr' nt' 56) 13 0), J, R), (27, 1184)) := by
  have a := fun {Q} => m_lay_2 (E := E) (Q := Q) (J := J) hR hT he h0
  have b := fun {Q} => m_wipe (E := E) (Q := Q) (I := laid (hr I' n) nr' nt') (J := J) hR
  simp only [e_64_661, e_64_665, e_64_666, e_64_670, e_64_671, e_64_662, e_64_667, rf_56_0 hR, rf_56_4 hR, rf_56_5 hR, rf_56_6 hR, rf_56_7 hR, rf_56_8 hR, rf_56_9 hR, rf_56_10 hR, rf_56_11 hR, rf_56_12 hR, rf_56_14 hR, rf_56_15 hR, rf_56_19 hR, rf_56_20 hR, rf_56_21 hR, rf_56_22 hR, rf_56_23 hR, rf_56_24 hR, rf_56_25 hR, rf_56_26 hR, rf_56_27 hR, rf_56_29 hR, rf_56_32 hR, rf_56_33 hR, rf_56_34 hR, rf_56_37 hR, rf_56_38 hR, kn_56, kn_57, kn_58, kn_59, kn_60, kn_61, kn_62, kn_63, kn_64, kn_65, kn_66, kn_67, kn_68, kn_69, kn_70, kn_71, kn_72, kn_73, kn_74, kn_75, kn_76, kn_77, kn_78, kn_79, kn_80, kn_81, kn_82, kn_83, ln_57, ln_58, ln_59, ln_60, ln_61, ln_62, ln_63, ln_64, ln_65, ln_66, ln_67, ln_68, ln_69, ln_70, ln_71, ln_72, ln_73, ln_74, ln_75, ln_76, ln_77, ln_78, ln_79, ln_80, ln_81, ln_82, ln_83, va_rf_some, push_s, push_n, nb0, nb1, nbb, Nat.reduceLT, a, b, Nat.add_zero, Nat.reduceLeDiff, Nat.le_refl]
end M8
