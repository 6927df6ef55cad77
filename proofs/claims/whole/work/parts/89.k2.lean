/-! ===== the class's reader: a way, all of it ===== -/
def wyE (I : Nat → Nat → Int32) (d A B a b : Nat) (D : Int32) : Nat → Nat → Int32 := va_up (va_up I (d + 1) (upd (upd (I (d + 1)) A (nI b)) B (nI a))) (d + 2) (upd (upd (I (d + 2)) A D) B D)
def drE (I : Nat → Nat → Int32) (d t : Nat) : Nat → Nat → Int32 := va_up I d (upd (I d) 16 (I d 16 ||| (1 <<< (nI t &&& 31))))
section K2
variable {E : tm_Env} {Q : Option Int32 → tm_St → Prop} {M I : Nat → Nat → Int32} {J : Nat → Nat → Int64} {R : Nat → Nat → Option Nat} {h d : Nat} {n p q nr nt a b x y A B : Nat} {tc pp : Nat → Nat}
theorem c_rw2 (hR : tRef h d R) (ha : a < 6) (hb : b < 6) (hx4 : x < 4) : tEv E 39 58 [.ref 3, .int (nI a), .int (nI b), .int (nI x), tm_dum, tm_dum, tm_dum] [] (mS (hx I q) J R) Q = if I (d + 1) (4 * a + x) = -4 then (if I (d + 1) (4 * b + wb x) = -4 then tEv E 39 106 [.ref 3, .int (nI a), .int (nI b), .int (nI x), .int (nI (4 * a + x)), .int (nI (4 * b + wb x)), tm_dum] [] (mS (hx I q) J R) Q else Q (some 0) (mS (hx I q) J R)) else Q (some 0) (mS (hx I q) J R) := by
  have dd := dd_of hR
  have hw := wb_lt hx4
  have hxd1 : ∀ q I, hx I q (d + 1) = I (d + 1) := fun q I => hx_x (by omega)
  have m1 : nI a * 4 + nI x = nI (4 * a + x) := by rw [show (4 : Int32) = nI 4 from rfl, nI_mul, nI_add, Nat.mul_comm]
  have m2 : nI b * 4 + nI (wb x) = nI (4 * b + wb x) := by rw [show (4 : Int32) = nI 4 from rfl, nI_mul, nI_add, Nat.mul_comm]
  have i1 := inb_nI (j := 4 * a + x) (n := 24) (by omega) (by decide)
  have i2 := inb_nI (j := 4 * b + wb x) (n := 24) (by omega) (by decide)
  have c1 := nI_cl (n := 4 * a + x) (by omega)
  have c2 := nI_cl (n := 4 * b + wb x) (by omega)
  simp only [e_39_58, e_39_59, e_39_60, e_39_61, e_39_62, e_39_63, e_39_65, e_39_66, e_39_67, e_39_68, e_39_69, e_39_70, e_39_71, e_39_72, e_39_74, e_39_75, e_39_78, e_39_81, e_39_83, e_39_84, e_39_86, e_39_89, e_39_90, e_39_93, e_39_96, e_39_98, e_39_99, e_39_101, e_39_104, e_39_105, rf_0_0 hR, rf_0_1 hR, rf_0_2 hR, rf_0_3 hR, rf_0_4 hR, rf_0_5 hR, rf_0_6 hR, rf_1_0 hR, rf_3_0 hR, rf_3_2 hR, rf_4_3 hR, rf_4_4 hR, rf_4_5 hR, rf_4_6 hR, rf_4_7 hR, rf_4_8 hR, rf_4_9 hR, rf_12_1 hR, rf_13_3 hR, rf_13_4 hR, rf_13_5 hR, rf_13_6 hR, rf_13_7 hR, rf_13_8 hR, rf_13_9 hR, rf_21_0 hR, rf_21_1 hR, rf_24_0 hR, rf_25_0 hR, rf_26_0 hR, rf_26_1 hR, rf_26_2 hR, rf_26_3 hR, rf_26_4 hR, rf_26_5 hR, rf_26_6 hR, rf_26_7 hR, rf_27_0 hR, rf_27_1 hR, rf_30_0 hR, rf_30_1 hR, rf_33_0 hR, rf_33_1 hR, rf_36_0 hR, rf_36_1 hR, rf_39_0 hR, rf_39_1 hR, rf_42_0 hR, rf_42_1 hR, rf_45_0 hR, rf_45_1 hR, rf_48_0 hR, rf_48_1 hR, rf_51_0 hR, rf_51_1 hR, rf_51_6 hR, rf_51_7 hR, rf_h_3 hR, rf_d_3 hR, rf_h_4 hR, rf_d_4 hR, rf_h_5 hR, rf_d_5 hR, rf_h_6 hR, rf_d_6 hR, rf_h_7 hR, rf_d_7 hR, rf_h_8 hR, rf_d_8 hR, rf_h_9 hR, rf_d_9 hR, rf_12_0 hR, rf_3_1 hR, kn_0, kn_1, kn_2, kn_3, kn_4, kn_5, kn_6, kn_7, kn_8, kn_9, kn_10, kn_11, kn_12, kn_13, kn_14, kn_15, kn_16, kn_17, kn_18, kn_19, kn_20, kn_21, kn_22, kn_23, kn_24, kn_25, kn_26, kn_27, kn_28, kn_29, kn_30, kn_31, kn_32, kn_33, kn_34, kn_35, kn_36, kn_37, kn_38, kn_39, kn_40, kn_41, kn_42, kn_43, kn_44, kn_45, kn_46, kn_47, kn_48, kn_49, kn_50, kn_51, kn_52, kn_53, kn_54, kn_55, ln_2, ln_5, ln_6, ln_7, ln_8, ln_9, ln_10, ln_11, ln_14, ln_15, ln_16, ln_17, ln_18, ln_19, ln_20, ln_22, ln_23, ln_26, ln_28, ln_29, ln_31, ln_32, ln_34, ln_35, ln_37, ln_38, ln_40, ln_41, ln_43, ln_44, ln_46, ln_47, ln_49, ln_50, ln_52, kn_h hR, lt_h hR, kn_h1 hR, ln_h1 hR, lt_h1 hR, kn_h2 hR, ln_h2 hR, lt_h2 hR, kn_h3 hR, ln_h3 hR, lt_h3 hR, kn_h4 hR, ln_h4 hR, lt_h4 hR, kn_h5 hR, ln_h5 hR, lt_h5 hR, kn_h6 hR, ln_h6 hR, lt_h6 hR, kn_h7 hR, ln_h7 hR, lt_h7 hR, kn_d hR, lt_d hR, kn_d1 hR, ln_d1 hR, lt_d1 hR, kn_d2 hR, ln_d2 hR, lt_d2 hR, kn_d3 hR, ln_d3 hR, lt_d3 hR, kn_d4 hR, ln_d4 hR, lt_d4 hR, kn_d5 hR, ln_d5 hR, lt_d5 hR, kn_d6 hR, ln_d6 hR, lt_d6 hR, kn_d7 hR, ln_d7 hR, lt_d7 hR, va_rf_some, push_s, push_n, nb0, nb1, nbb, Nat.reduceLT, wb_xor x hx4, m1, m2, hxd1, i1, i2, c1, c2]
theorem c_rw3 (hR : tRef h d R) (hA : A < 24) (hB : B < 24) {l3 : Value} {D : Int32} : tEv E 39 153 [.ref 3, .int (nI a), .int (nI b), l3, .int (nI A), .int (nI B), .int D] [] (mS (hx I q) J R) Q = Q (some 1) (mS (hx (wyE I d A B a b D) q) J R) := by
  have dd := dd_of hR
  have hxd1 : ∀ q I, hx I q (d + 1) = I (d + 1) := fun q I => hx_x (by omega)
  have hxd2 : ∀ q I, hx I q (d + 2) = I (d + 2) := fun q I => hx_x (by omega)
  have hup1 : ∀ q I f, va_up (hx I q) (d + 1) f = hx (va_up I (d + 1) f) q := fun q I f => hx_up (by omega) f
  have hup2 : ∀ q I f, va_up (hx I q) (d + 2) f = hx (va_up I (d + 2) f) q := fun q I f => hx_up (by omega) f
  have i1 := inb_nI (j := A) (n := 24) (by omega) (by decide)
  have i2 := inb_nI (j := B) (n := 24) (by omega) (by decide)
  have c1 := nI_cl (n := A) (by omega)
  have c2 := nI_cl (n := B) (by omega)
  have nar2 : ∀ v, vp_nar .int v = v := fun _ => rfl
  have n1 : (d + 2 = d + 1) = False := eq_false (by omega)
  have n2 : (d + 1 = d + 2) = False := eq_false (by omega)
  simp only [e_39_153, e_39_154, e_39_157, e_39_160, e_39_162, e_39_163, e_39_164, e_39_165, e_39_168, e_39_171, e_39_173, e_39_174, e_39_175, e_39_176, e_39_179, e_39_182, e_39_184, e_39_186, e_39_187, e_39_188, e_39_191, e_39_194, e_39_196, e_39_198, e_39_199, e_39_200, rf_0_0 hR, rf_0_1 hR, rf_0_2 hR, rf_0_3 hR, rf_0_4 hR, rf_0_5 hR, rf_0_6 hR, rf_1_0 hR, rf_3_0 hR, rf_3_2 hR, rf_4_3 hR, rf_4_4 hR, rf_4_5 hR, rf_4_6 hR, rf_4_7 hR, rf_4_8 hR, rf_4_9 hR, rf_12_1 hR, rf_13_3 hR, rf_13_4 hR, rf_13_5 hR, rf_13_6 hR, rf_13_7 hR, rf_13_8 hR, rf_13_9 hR, rf_21_0 hR, rf_21_1 hR, rf_24_0 hR, rf_25_0 hR, rf_26_0 hR, rf_26_1 hR, rf_26_2 hR, rf_26_3 hR, rf_26_4 hR, rf_26_5 hR, rf_26_6 hR, rf_26_7 hR, rf_27_0 hR, rf_27_1 hR, rf_30_0 hR, rf_30_1 hR, rf_33_0 hR, rf_33_1 hR, rf_36_0 hR, rf_36_1 hR, rf_39_0 hR, rf_39_1 hR, rf_42_0 hR, rf_42_1 hR, rf_45_0 hR, rf_45_1 hR, rf_48_0 hR, rf_48_1 hR, rf_51_0 hR, rf_51_1 hR, rf_51_6 hR, rf_51_7 hR, rf_h_3 hR, rf_d_3 hR, rf_h_4 hR, rf_d_4 hR, rf_h_5 hR, rf_d_5 hR, rf_h_6 hR, rf_d_6 hR, rf_h_7 hR, rf_d_7 hR, rf_h_8 hR, rf_d_8 hR, rf_h_9 hR, rf_d_9 hR, rf_12_0 hR, rf_3_1 hR, kn_0, kn_1, kn_2, kn_3, kn_4, kn_5, kn_6, kn_7, kn_8, kn_9, kn_10, kn_11, kn_12, kn_13, kn_14, kn_15, kn_16, kn_17, kn_18, kn_19, kn_20, kn_21, kn_22, kn_23, kn_24, kn_25, kn_26, kn_27, kn_28, kn_29, kn_30, kn_31, kn_32, kn_33, kn_34, kn_35, kn_36, kn_37, kn_38, kn_39, kn_40, kn_41, kn_42, kn_43, kn_44, kn_45, kn_46, kn_47, kn_48, kn_49, kn_50, kn_51, kn_52, kn_53, kn_54, kn_55, ln_2, ln_5, ln_6, ln_7, ln_8, ln_9, ln_10, ln_11, ln_14, ln_15, ln_16, ln_17, ln_18, ln_19, ln_20, ln_22, ln_23, ln_26, ln_28, ln_29, ln_31, ln_32, ln_34, ln_35, ln_37, ln_38, ln_40, ln_41, ln_43, ln_44, ln_46, ln_47, ln_49, ln_50, ln_52, kn_h hR, lt_h hR, kn_h1 hR, ln_h1 hR, lt_h1 hR, kn_h2 hR, ln_h2 hR, lt_h2 hR, kn_h3 hR, ln_h3 hR, lt_h3 hR, kn_h4 hR, ln_h4 hR, lt_h4 hR, kn_h5 hR, ln_h5 hR, lt_h5 hR, kn_h6 hR, ln_h6 hR, lt_h6 hR, kn_h7 hR, ln_h7 hR, lt_h7 hR, kn_d hR, lt_d hR, kn_d1 hR, ln_d1 hR, lt_d1 hR, kn_d2 hR, ln_d2 hR, lt_d2 hR, kn_d3 hR, ln_d3 hR, lt_d3 hR, kn_d4 hR, ln_d4 hR, lt_d4 hR, kn_d5 hR, ln_d5 hR, lt_d5 hR, kn_d6 hR, ln_d6 hR, lt_d6 hR, kn_d7 hR, ln_d7 hR, lt_d7 hR, va_rf_some, push_s, push_n, nb0, nb1, nbb, Nat.reduceLT, hxd1, hxd2, hup1, hup2, i1, i2, c1, c2, nar2, vu_eq, vu_vu, vu, n1, n2, if_false]
  rfl
theorem c_rw4 (hR : tRef h d R) (hT : TXc I n tc) (hq : q < 800) (e : cc n tc q = 59) {l3 l4 l5 : Value} : tEv E 39 106 [.ref 3, .int (nI a), .int (nI b), l3, l4, l5, tm_dum] [] (mS (hx I q) J R) Q = tEv E 39 153 [.ref 3, .int (nI a), .int (nI b), l3, l4, l5, .int (-4)] [] (mS (hx I q) J R) Q := by
  have pk := fun {Q} => c_peek3 (E := E) (Q := Q) (J := J) hR hT (show q < 1000 by omega)
  rw [e] at pk
  simp only [e_39_106, e_39_108, e_39_110, e_39_111, e_39_114, e_39_116, rf_0_0 hR, rf_0_1 hR, rf_0_2 hR, rf_0_3 hR, rf_0_4 hR, rf_0_5 hR, rf_0_6 hR, rf_1_0 hR, rf_3_0 hR, rf_3_2 hR, rf_4_3 hR, rf_4_4 hR, rf_4_5 hR, rf_4_6 hR, rf_4_7 hR, rf_4_8 hR, rf_4_9 hR, rf_12_1 hR, rf_13_3 hR, rf_13_4 hR, rf_13_5 hR, rf_13_6 hR, rf_13_7 hR, rf_13_8 hR, rf_13_9 hR, rf_21_0 hR, rf_21_1 hR, rf_24_0 hR, rf_25_0 hR, rf_26_0 hR, rf_26_1 hR, rf_26_2 hR, rf_26_3 hR, rf_26_4 hR, rf_26_5 hR, rf_26_6 hR, rf_26_7 hR, rf_27_0 hR, rf_27_1 hR, rf_30_0 hR, rf_30_1 hR, rf_33_0 hR, rf_33_1 hR, rf_36_0 hR, rf_36_1 hR, rf_39_0 hR, rf_39_1 hR, rf_42_0 hR, rf_42_1 hR, rf_45_0 hR, rf_45_1 hR, rf_48_0 hR, rf_48_1 hR, rf_51_0 hR, rf_51_1 hR, rf_51_6 hR, rf_51_7 hR, rf_h_3 hR, rf_d_3 hR, rf_h_4 hR, rf_d_4 hR, rf_h_5 hR, rf_d_5 hR, rf_h_6 hR, rf_d_6 hR, rf_h_7 hR, rf_d_7 hR, rf_h_8 hR, rf_d_8 hR, rf_h_9 hR, rf_d_9 hR, rf_12_0 hR, rf_3_1 hR, kn_0, kn_1, kn_2, kn_3, kn_4, kn_5, kn_6, kn_7, kn_8, kn_9, kn_10, kn_11, kn_12, kn_13, kn_14, kn_15, kn_16, kn_17, kn_18, kn_19, kn_20, kn_21, kn_22, kn_23, kn_24, kn_25, kn_26, kn_27, kn_28, kn_29, kn_30, kn_31, kn_32, kn_33, kn_34, kn_35, kn_36, kn_37, kn_38, kn_39, kn_40, kn_41, kn_42, kn_43, kn_44, kn_45, kn_46, kn_47, kn_48, kn_49, kn_50, kn_51, kn_52, kn_53, kn_54, kn_55, ln_2, ln_5, ln_6, ln_7, ln_8, ln_9, ln_10, ln_11, ln_14, ln_15, ln_16, ln_17, ln_18, ln_19, ln_20, ln_22, ln_23, ln_26, ln_28, ln_29, ln_31, ln_32, ln_34, ln_35, ln_37, ln_38, ln_40, ln_41, ln_43, ln_44, ln_46, ln_47, ln_49, ln_50, ln_52, kn_h hR, lt_h hR, kn_h1 hR, ln_h1 hR, lt_h1 hR, kn_h2 hR, ln_h2 hR, lt_h2 hR, kn_h3 hR, ln_h3 hR, lt_h3 hR, kn_h4 hR, ln_h4 hR, lt_h4 hR, kn_h5 hR, ln_h5 hR, lt_h5 hR, kn_h6 hR, ln_h6 hR, lt_h6 hR, kn_h7 hR, ln_h7 hR, lt_h7 hR, kn_d hR, lt_d hR, kn_d1 hR, ln_d1 hR, lt_d1 hR, kn_d2 hR, ln_d2 hR, lt_d2 hR, kn_d3 hR, ln_d3 hR, lt_d3 hR, kn_d4 hR, ln_d4 hR, lt_d4 hR, kn_d5 hR, ln_d5 hR, lt_d5 hR, kn_d6 hR, ln_d6 hR, lt_d6 hR, kn_d7 hR, ln_d7 hR, lt_d7 hR, va_rf_some, push_s, push_n, nb0, nb1, nbb, Nat.reduceLT, pk, show (nI 59 = (59 : Int32)) = True from eq_true rfl, if_true]
theorem c_rw5 (hR : tRef h d R) (hT : TXc I n tc) (hD : DR M I d nr nt pp) (hq : q < 800) (ha : a < nr) (e : ¬ cc n tc q = 59) {l3 l4 l5 : Value} : tEv E 39 106 [.ref 3, .int (nI a), .int (nI b), l3, l4, l5, tm_dum] [] (mS (hx I q) J R) Q = if drOk M n tc nt a q = true then tEv E 39 153 [.ref 3, .int (nI a), .int (nI b), l3, l4, l5, .int (nI (thV n tc q))] [] (mS (hx (drE I d (thV n tc q)) (q + 2)) J R) Q else Q (some 0) (mS (hx I (q + 2)) J R) := by
  have dd := dd_of hR
  have pk := fun {Q} => c_peek3 (E := E) (Q := Q) (J := J) hR hT (show q < 1000 by omega)
  have ne : (nI (cc n tc q) = 59) = False := eq_false (fun g => e ((nI_eq (b := 59) (by have := cc_c (p := q) hT; omega) (by omega)).mp g))
  have tn := fun {Q} => c_thingNo (E := E) (Q := Q) (J := J) hR hT (show q < 900 by omega) (by omega) hD.1.2.1 (by have := hD.1.2.2.2; omega)
  have di := fun {Q} => c_isDoorIn (E := E) (Q := Q) (J := J) (n := n) (p := q) (q := q + 2) (tc := tc) (a := a) hR hD ha
  have hxd : ∀ q I, hx I q d = I d := fun q I => hx_x (by omega)
  have hup : ∀ q I f, va_up (hx I q) d f = hx (va_up I d f) q := fun q I f => hx_up (by omega) f
  simp only [e_39_106, e_39_108, e_39_110, e_39_111, e_39_114, e_39_116, e_39_119, e_39_120, e_39_123, e_39_125, e_39_126, e_39_128, e_39_129, e_39_132, rf_0_0 hR, rf_0_1 hR, rf_0_2 hR, rf_0_3 hR, rf_0_4 hR, rf_0_5 hR, rf_0_6 hR, rf_1_0 hR, rf_3_0 hR, rf_3_2 hR, rf_4_3 hR, rf_4_4 hR, rf_4_5 hR, rf_4_6 hR, rf_4_7 hR, rf_4_8 hR, rf_4_9 hR, rf_12_1 hR, rf_13_3 hR, rf_13_4 hR, rf_13_5 hR, rf_13_6 hR, rf_13_7 hR, rf_13_8 hR, rf_13_9 hR, rf_21_0 hR, rf_21_1 hR, rf_24_0 hR, rf_25_0 hR, rf_26_0 hR, rf_26_1 hR, rf_26_2 hR, rf_26_3 hR, rf_26_4 hR, rf_26_5 hR, rf_26_6 hR, rf_26_7 hR, rf_27_0 hR, rf_27_1 hR, rf_30_0 hR, rf_30_1 hR, rf_33_0 hR, rf_33_1 hR, rf_36_0 hR, rf_36_1 hR, rf_39_0 hR, rf_39_1 hR, rf_42_0 hR, rf_42_1 hR, rf_45_0 hR, rf_45_1 hR, rf_48_0 hR, rf_48_1 hR, rf_51_0 hR, rf_51_1 hR, rf_51_6 hR, rf_51_7 hR, rf_h_3 hR, rf_d_3 hR, rf_h_4 hR, rf_d_4 hR, rf_h_5 hR, rf_d_5 hR, rf_h_6 hR, rf_d_6 hR, rf_h_7 hR, rf_d_7 hR, rf_h_8 hR, rf_d_8 hR, rf_h_9 hR, rf_d_9 hR, rf_12_0 hR, rf_3_1 hR, kn_0, kn_1, kn_2, kn_3, kn_4, kn_5, kn_6, kn_7, kn_8, kn_9, kn_10, kn_11, kn_12, kn_13, kn_14, kn_15, kn_16, kn_17, kn_18, kn_19, kn_20, kn_21, kn_22, kn_23, kn_24, kn_25, kn_26, kn_27, kn_28, kn_29, kn_30, kn_31, kn_32, kn_33, kn_34, kn_35, kn_36, kn_37, kn_38, kn_39, kn_40, kn_41, kn_42, kn_43, kn_44, kn_45, kn_46, kn_47, kn_48, kn_49, kn_50, kn_51, kn_52, kn_53, kn_54, kn_55, ln_2, ln_5, ln_6, ln_7, ln_8, ln_9, ln_10, ln_11, ln_14, ln_15, ln_16, ln_17, ln_18, ln_19, ln_20, ln_22, ln_23, ln_26, ln_28, ln_29, ln_31, ln_32, ln_34, ln_35, ln_37, ln_38, ln_40, ln_41, ln_43, ln_44, ln_46, ln_47, ln_49, ln_50, ln_52, kn_h hR, lt_h hR, kn_h1 hR, ln_h1 hR, lt_h1 hR, kn_h2 hR, ln_h2 hR, lt_h2 hR, kn_h3 hR, ln_h3 hR, lt_h3 hR, kn_h4 hR, ln_h4 hR, lt_h4 hR, kn_h5 hR, ln_h5 hR, lt_h5 hR, kn_h6 hR, ln_h6 hR, lt_h6 hR, kn_h7 hR, ln_h7 hR, lt_h7 hR, kn_d hR, lt_d hR, kn_d1 hR, ln_d1 hR, lt_d1 hR, kn_d2 hR, ln_d2 hR, lt_d2 hR, kn_d3 hR, ln_d3 hR, lt_d3 hR, kn_d4 hR, ln_d4 hR, lt_d4 hR, kn_d5 hR, ln_d5 hR, lt_d5 hR, kn_d6 hR, ln_d6 hR, lt_d6 hR, kn_d7 hR, ln_d7 hR, lt_d7 hR, va_rf_some, push_s, push_n, nb0, nb1, nbb, Nat.reduceLT, pk, ne, if_false, tn, di, b2i_0]
  cases c : drOk M n tc nt a q with
  | false =>
    rw [if_pos rfl, if_neg (show ¬ (false = true) by decide)]
    simp only [e_39_135, e_39_136, rf_0_0 hR, rf_0_1 hR, rf_0_2 hR, rf_0_3 hR, rf_0_4 hR, rf_0_5 hR, rf_0_6 hR, rf_1_0 hR, rf_3_0 hR, rf_3_2 hR, rf_4_3 hR, rf_4_4 hR, rf_4_5 hR, rf_4_6 hR, rf_4_7 hR, rf_4_8 hR, rf_4_9 hR, rf_12_1 hR, rf_13_3 hR, rf_13_4 hR, rf_13_5 hR, rf_13_6 hR, rf_13_7 hR, rf_13_8 hR, rf_13_9 hR, rf_21_0 hR, rf_21_1 hR, rf_24_0 hR, rf_25_0 hR, rf_26_0 hR, rf_26_1 hR, rf_26_2 hR, rf_26_3 hR, rf_26_4 hR, rf_26_5 hR, rf_26_6 hR, rf_26_7 hR, rf_27_0 hR, rf_27_1 hR, rf_30_0 hR, rf_30_1 hR, rf_33_0 hR, rf_33_1 hR, rf_36_0 hR, rf_36_1 hR, rf_39_0 hR, rf_39_1 hR, rf_42_0 hR, rf_42_1 hR, rf_45_0 hR, rf_45_1 hR, rf_48_0 hR, rf_48_1 hR, rf_51_0 hR, rf_51_1 hR, rf_51_6 hR, rf_51_7 hR, rf_h_3 hR, rf_d_3 hR, rf_h_4 hR, rf_d_4 hR, rf_h_5 hR, rf_d_5 hR, rf_h_6 hR, rf_d_6 hR, rf_h_7 hR, rf_d_7 hR, rf_h_8 hR, rf_d_8 hR, rf_h_9 hR, rf_d_9 hR, rf_12_0 hR, rf_3_1 hR, kn_0, kn_1, kn_2, kn_3, kn_4, kn_5, kn_6, kn_7, kn_8, kn_9, kn_10, kn_11, kn_12, kn_13, kn_14, kn_15, kn_16, kn_17, kn_18, kn_19, kn_20, kn_21, kn_22, kn_23, kn_24, kn_25, kn_26, kn_27, kn_28, kn_29, kn_30, kn_31, kn_32, kn_33, kn_34, kn_35, kn_36, kn_37, kn_38, kn_39, kn_40, kn_41, kn_42, kn_43, kn_44, kn_45, kn_46, kn_47, kn_48, kn_49, kn_50, kn_51, kn_52, kn_53, kn_54, kn_55, ln_2, ln_5, ln_6, ln_7, ln_8, ln_9, ln_10, ln_11, ln_14, ln_15, ln_16, ln_17, ln_18, ln_19, ln_20, ln_22, ln_23, ln_26, ln_28, ln_29, ln_31, ln_32, ln_34, ln_35, ln_37, ln_38, ln_40, ln_41, ln_43, ln_44, ln_46, ln_47, ln_49, ln_50, ln_52, kn_h hR, lt_h hR, kn_h1 hR, ln_h1 hR, lt_h1 hR, kn_h2 hR, ln_h2 hR, lt_h2 hR, kn_h3 hR, ln_h3 hR, lt_h3 hR, kn_h4 hR, ln_h4 hR, lt_h4 hR, kn_h5 hR, ln_h5 hR, lt_h5 hR, kn_h6 hR, ln_h6 hR, lt_h6 hR, kn_h7 hR, ln_h7 hR, lt_h7 hR, kn_d hR, lt_d hR, kn_d1 hR, ln_d1 hR, lt_d1 hR, kn_d2 hR, ln_d2 hR, lt_d2 hR, kn_d3 hR, ln_d3 hR, lt_d3 hR, kn_d4 hR, ln_d4 hR, lt_d4 hR, kn_d5 hR, ln_d5 hR, lt_d5 hR, kn_d6 hR, ln_d6 hR, lt_d6 hR, kn_d7 hR, ln_d7 hR, lt_d7 hR, va_rf_some, push_s, push_n, nb0, nb1, nbb, Nat.reduceLT]
  | true =>
    have ht : thOk n tc nt q = true := by
      unfold drOk at c
      simp only [Bool.and_eq_true] at c
      exact c.1.1.1
    rw [if_neg (by decide), if_pos rfl, ht, if_pos rfl]
    simp only [e_39_137, e_39_138, e_39_141, e_39_142, e_39_145, e_39_146, e_39_148, e_39_149, e_39_150, rf_0_0 hR, rf_0_1 hR, rf_0_2 hR, rf_0_3 hR, rf_0_4 hR, rf_0_5 hR, rf_0_6 hR, rf_1_0 hR, rf_3_0 hR, rf_3_2 hR, rf_4_3 hR, rf_4_4 hR, rf_4_5 hR, rf_4_6 hR, rf_4_7 hR, rf_4_8 hR, rf_4_9 hR, rf_12_1 hR, rf_13_3 hR, rf_13_4 hR, rf_13_5 hR, rf_13_6 hR, rf_13_7 hR, rf_13_8 hR, rf_13_9 hR, rf_21_0 hR, rf_21_1 hR, rf_24_0 hR, rf_25_0 hR, rf_26_0 hR, rf_26_1 hR, rf_26_2 hR, rf_26_3 hR, rf_26_4 hR, rf_26_5 hR, rf_26_6 hR, rf_26_7 hR, rf_27_0 hR, rf_27_1 hR, rf_30_0 hR, rf_30_1 hR, rf_33_0 hR, rf_33_1 hR, rf_36_0 hR, rf_36_1 hR, rf_39_0 hR, rf_39_1 hR, rf_42_0 hR, rf_42_1 hR, rf_45_0 hR, rf_45_1 hR, rf_48_0 hR, rf_48_1 hR, rf_51_0 hR, rf_51_1 hR, rf_51_6 hR, rf_51_7 hR, rf_h_3 hR, rf_d_3 hR, rf_h_4 hR, rf_d_4 hR, rf_h_5 hR, rf_d_5 hR, rf_h_6 hR, rf_d_6 hR, rf_h_7 hR, rf_d_7 hR, rf_h_8 hR, rf_d_8 hR, rf_h_9 hR, rf_d_9 hR, rf_12_0 hR, rf_3_1 hR, kn_0, kn_1, kn_2, kn_3, kn_4, kn_5, kn_6, kn_7, kn_8, kn_9, kn_10, kn_11, kn_12, kn_13, kn_14, kn_15, kn_16, kn_17, kn_18, kn_19, kn_20, kn_21, kn_22, kn_23, kn_24, kn_25, kn_26, kn_27, kn_28, kn_29, kn_30, kn_31, kn_32, kn_33, kn_34, kn_35, kn_36, kn_37, kn_38, kn_39, kn_40, kn_41, kn_42, kn_43, kn_44, kn_45, kn_46, kn_47, kn_48, kn_49, kn_50, kn_51, kn_52, kn_53, kn_54, kn_55, ln_2, ln_5, ln_6, ln_7, ln_8, ln_9, ln_10, ln_11, ln_14, ln_15, ln_16, ln_17, ln_18, ln_19, ln_20, ln_22, ln_23, ln_26, ln_28, ln_29, ln_31, ln_32, ln_34, ln_35, ln_37, ln_38, ln_40, ln_41, ln_43, ln_44, ln_46, ln_47, ln_49, ln_50, ln_52, kn_h hR, lt_h hR, kn_h1 hR, ln_h1 hR, lt_h1 hR, kn_h2 hR, ln_h2 hR, lt_h2 hR, kn_h3 hR, ln_h3 hR, lt_h3 hR, kn_h4 hR, ln_h4 hR, lt_h4 hR, kn_h5 hR, ln_h5 hR, lt_h5 hR, kn_h6 hR, ln_h6 hR, lt_h6 hR, kn_h7 hR, ln_h7 hR, lt_h7 hR, kn_d hR, lt_d hR, kn_d1 hR, ln_d1 hR, lt_d1 hR, kn_d2 hR, ln_d2 hR, lt_d2 hR, kn_d3 hR, ln_d3 hR, lt_d3 hR, kn_d4 hR, ln_d4 hR, lt_d4 hR, kn_d5 hR, ln_d5 hR, lt_d5 hR, kn_d6 hR, ln_d6 hR, lt_d6 hR, kn_d7 hR, ln_d7 hR, lt_d7 hR, va_rf_some, push_s, push_n, nb0, nb1, nbb, Nat.reduceLT, hxd, hup]
    rfl
def wyT (n : Nat) (tc : Nat → Nat) (p : Nat) : Bool := decide (cc n tc (p + 3) = 59) || dg n tc (p + 3)
/-- what a way makes of the class's draft -/
def wyC (I : Nat → Nat → Int32) (n : Nat) (tc : Nat → Nat) (d p : Nat) : Nat → Nat → Int32 := wyE (if dg n tc (p + 3) = true then drE I d (thV n tc (p + 3)) else I) d (wyA n tc p) (wyB n tc p) (dv n tc p) (dv n tc (p + 1)) (wyD n tc p)
theorem c_readWay_1 (hR : tRef h d R) (hT : TXc I n tc) (hD : DR M I d nr nt pp) (hp : p < 700) (hok : wyOk M n tc nr nt p = true) (ht : wyT n tc p = true) : tEv E 39 0 [.ref 3, tm_dum, tm_dum, tm_dum, tm_dum, tm_dum, tm_dum] [] (mS (hx I p) J R) Q = Q (some 1) (mS (hx (wyC I n tc d p) (wyP n tc p)) J R) := by
  have h6 := hD.1.2.2.1
  unfold wyOk at hok
  simp only [Bool.and_eq_true, Bool.not_eq_true', decide_eq_false_iff_not, decide_eq_true_eq] at hok
  obtain ⟨⟨⟨⟨⟨⟨k1, k2⟩, k3⟩, k4⟩, k5⟩, k6⟩, k7⟩ := hok
  have v1 := rm_val k1
  have v2 := rm_val k2
  have hw := wdN_lt (cc n tc (p + 2))
  have hA : wyA n tc p < 24 := by unfold wyA; omega
  have hB : wyB n tc p < 24 := by have := wb_lt hw; unfold wyB; omega
  have q5 : I (d + 1) (4 * dv n tc p + wdN (cc n tc (p + 2))) = -4 := (hD.2.2.1.1 _ hA).trans k5
  have q6 : I (d + 1) (4 * dv n tc (p + 1) + wb (wdN (cc n tc (p + 2)))) = -4 := (hD.2.2.1.1 _ hB).trans k6
  rw [c_rw1 hR hT (by omega) hD.1.1 h6 k1 k2 k3 k4, c_rw2 hR (by omega) (by omega) hw, if_pos q5, if_pos q6]
  unfold wyC wyP wyD
  by_cases e : cc n tc (p + 3) = 59
  · have e2 : dg n tc (p + 3) = false := by
      unfold dg
      rw [e]
      rfl
    rw [c_rw4 hR hT (by omega) e, e2, if_neg (show ¬ (false = true) by decide), if_neg (show ¬ (false = true) by decide), if_neg (show ¬ (false = true) by decide)]
    exact c_rw3 hR hA hB
  · have e2 : dg n tc (p + 3) = true := by
      unfold wyT at ht
      rw [decide_eq_false e, Bool.false_or] at ht
      exact ht
    rw [e2] at k7
    have k8 : drOk M n tc nt (dv n tc p) (p + 3) = true := by simpa using k7
    rw [c_rw5 hR hT hD (by omega) v1.2 e, if_pos k8, if_pos e2, if_pos e2, if_pos e2]
    exact c_rw3 hR hA hB
theorem c_readWay_0 (hR : tRef h d R) (hT : TXc I n tc) (hD : DR M I d nr nt pp) (hp : p < 700) (hok : (wyOk M n tc nr nt p && wyT n tc p) = false) : ∃ I', frD I I' d ∧ ∀ Q, tEv E 39 0 [.ref 3, tm_dum, tm_dum, tm_dum, tm_dum, tm_dum, tm_dum] [] (mS (hx I p) J R) Q = Q (some 0) (mS I' J R) := by
  have h6 := hD.1.2.2.1
  by_cases k : (rmOk n tc nr p && rmOk n tc nr (p + 1) && !decide (dv n tc p = dv n tc (p + 1)) && wdOk (cc n tc (p + 2))) = false
  · exact ⟨hx I (p + 3), frD_hx (frD_refl I d), fun Q => c_rw0 hR hT (by omega) hD.1.1 h6 k⟩
  · rw [Bool.not_eq_false] at k
    unfold wyOk at hok
    rw [k, Bool.true_and] at hok
    simp only [Bool.and_eq_true, Bool.not_eq_true', decide_eq_false_iff_not] at k
    obtain ⟨⟨⟨k1, k2⟩, k3⟩, k4⟩ := k
    have v1 := rm_val k1
    have v2 := rm_val k2
    have hw := wdN_lt (cc n tc (p + 2))
    have hA : wyA n tc p < 24 := by unfold wyA; omega
    have hB : wyB n tc p < 24 := by have := wb_lt hw; unfold wyB; omega
    have q5 : I (d + 1) (4 * dv n tc p + wdN (cc n tc (p + 2))) = M 76 (wyA n tc p) := hD.2.2.1.1 _ hA
    have q6 : I (d + 1) (4 * dv n tc (p + 1) + wb (wdN (cc n tc (p + 2)))) = M 76 (wyB n tc p) := hD.2.2.1.1 _ hB
    have st := fun Q => (c_rw1 (E := E) (Q := Q) (J := J) hR hT (by omega) hD.1.1 h6 k1 k2 k3 k4).trans (c_rw2 (E := E) (Q := Q) (I := I) (J := J) (q := p + 3) hR (show dv n tc p < 6 by omega) (show dv n tc (p + 1) < 6 by omega) hw)
    rw [q5, q6] at st
    by_cases c5 : M 76 (wyA n tc p) = -4
    · by_cases c6 : M 76 (wyB n tc p) = -4
      · rw [decide_eq_true c5, decide_eq_true c6, Bool.true_and, Bool.true_and] at hok
        simp only [c5, c6, if_true] at st
        have e : ¬ cc n tc (p + 3) = 59 := fun e => by
          have e2 : dg n tc (p + 3) = false := by
            unfold dg
            rw [e]
            rfl
          unfold wyT at hok
          rw [e2, decide_eq_true e] at hok
          exact absurd hok (by simp)
        refine ⟨hx I (p + 3 + 2), frD_hx (frD_refl I d), fun Q => ?_⟩
        have hno : drOk M n tc nt (dv n tc p) (p + 3) = false := by
          unfold wyT at hok
          rw [decide_eq_false e, Bool.false_or] at hok
          cases c : drOk M n tc nt (dv n tc p) (p + 3) with
          | false => rfl
          | true =>
            have : dg n tc (p + 3) = true := by
              unfold drOk thOk at c
              simp only [Bool.and_eq_true] at c
              exact c.1.1.1.1.1
            rw [c, this] at hok
            exact absurd hok (by decide)
        rw [st, c_rw5 hR hT hD (by omega) v1.2 e, hno, if_neg (by decide)]
      · simp only [c5, c6, if_true, if_false] at st
        exact ⟨hx I (p + 3), frD_hx (frD_refl I d), st⟩
    · simp only [c5, if_false] at st
      exact ⟨hx I (p + 3), frD_hx (frD_refl I d), st⟩
theorem frD_wyC : frD I (wyC I n tc d p) d := by
  unfold wyC wyE
  have f0 : frD I (if dg n tc (p + 3) = true then drE I d (thV n tc (p + 3)) else I) d := by
    split
    · exact frD_up (frD_refl I d) ⟨Nat.le_refl _, by omega⟩
    · exact frD_refl I d
  exact frD_up (frD_up f0 ⟨by omega, by omega⟩) ⟨by omega, by omega⟩
theorem DR_way (hD : DR M I d nr nt pp) (hok : wyOk M n tc nr nt p = true) : DR (rdWy M n tc p) (wyC I n tc d p) d nr nt pp := by
  unfold wyOk at hok
  simp only [Bool.and_eq_true, Bool.not_eq_true', decide_eq_false_iff_not, decide_eq_true_eq] at hok
  obtain ⟨⟨⟨⟨⟨⟨k1, k2⟩, k3⟩, k4⟩, k5⟩, k6⟩, k7⟩ := hok
  have v1 := (rm_val k1).2
  have v2 := (rm_val k2).2
  obtain ⟨⟨a1, a2, a3, a4⟩, ⟨b1, b2⟩, ⟨c1, c2, c3, c4⟩, ⟨e1, e2, e3, e4, e5⟩, f1, ⟨g1, g2, g3, g4, g5, g6⟩, i1, i2⟩ := hD
  have m : ∀ c, c ≠ 56 → c ≠ 76 → c ≠ 77 → rdWy M n tc p c = M c := fun c h1 h2 h3 => by
    unfold rdWy
    rw [vu, if_neg h3, vu, if_neg h2]
    by_cases e : dg n tc (p + 3) = true
    · rw [if_pos e, vu, if_neg h1]
    · rw [if_neg e]
  have m76 : ∀ k, rdWy M n tc p 76 k = if k = wyB n tc p then nI (dv n tc p) else if k = wyA n tc p then nI (dv n tc (p + 1)) else M 76 k := fun k => by
    unfold rdWy
    rw [vu, if_neg (by decide), vu_eq, ud, ud]
  have m77 : ∀ k, rdWy M n tc p 77 k = if k = wyB n tc p then wyD n tc p else if k = wyA n tc p then wyD n tc p else M 77 k := fun k => by
    unfold rdWy
    rw [vu_eq, ud, ud]
  have m28 : rdWy M n tc p 56 28 = if dg n tc (p + 3) = true then M 56 28 ||| (1 <<< (nI (thV n tc (p + 3)) &&& 31)) else M 56 28 := by
    unfold rdWy
    rw [vu, if_neg (by decide), vu, if_neg (by decide)]
    by_cases e : dg n tc (p + 3) = true
    · rw [if_pos e, if_pos e, vu_eq, ud, if_pos rfl]
    · rw [if_neg e, if_neg e]
  have f0 : ∀ c, c ≠ d → (if dg n tc (p + 3) = true then drE I d (thV n tc (p + 3)) else I) c = I c := fun c hc => by
    split
    · unfold drE
      rw [vu, if_neg hc]
    · rfl
  have l : ∀ c, d + 2 < c → wyC I n tc d p c = I c := fun c hc => by
    unfold wyC wyE
    rw [vu, if_neg (by omega), vu, if_neg (by omega), f0 c (by omega)]
  have l1 : ∀ k, wyC I n tc d p (d + 1) k = if k = wyB n tc p then nI (dv n tc p) else if k = wyA n tc p then nI (dv n tc (p + 1)) else I (d + 1) k := fun k => by
    unfold wyC wyE
    rw [vu, if_neg (show ¬ d + 1 = d + 2 by omega), vu_eq, ud, ud, f0 (d + 1) (by omega)]
  have l2 : ∀ k, wyC I n tc d p (d + 2) k = if k = wyB n tc p then wyD n tc p else if k = wyA n tc p then wyD n tc p else I (d + 2) k := fun k => by
    unfold wyC wyE
    rw [vu_eq, ud, ud, f0 (d + 2) (by omega)]
  have l0 : ∀ k, k ≠ 16 → wyC I n tc d p d k = I d k := fun k hk => by
    unfold wyC wyE
    rw [vu, if_neg (show ¬ d = d + 2 by omega), vu, if_neg (show ¬ d = d + 1 by omega)]
    split
    · unfold drE
      rw [vu_eq, ud, if_neg hk]
    · rfl
  have l16 : wyC I n tc d p d 16 = if dg n tc (p + 3) = true then I d 16 ||| (1 <<< (nI (thV n tc (p + 3)) &&& 31)) else I d 16 := by
    unfold wyC wyE
    rw [vu, if_neg (show ¬ d = d + 2 by omega), vu, if_neg (show ¬ d = d + 1 by omega)]
    by_cases e : dg n tc (p + 3) = true
    · rw [if_pos e, if_pos e]
      unfold drE
      rw [vu_eq, ud, if_pos rfl]
    · rw [if_neg e, if_neg e]
  have hwd : wyD n tc p = -4 ∨ ∃ t, t < nt ∧ wyD n tc p = nI t ∧ ¬ M 74 t &&& 4 = 0 := by
    unfold wyD
    cases e : dg n tc (p + 3) with
    | false => exact Or.inl (if_neg (by decide))
    | true =>
      rw [e] at k7
      have k8 : drOk M n tc nt (dv n tc p) (p + 3) = true := by simpa using k7
      unfold drOk thOk at k8
      simp only [Bool.and_eq_true, decide_eq_true_eq] at k8
      exact Or.inr ⟨_, k8.1.1.1.2, if_pos rfl, (and_15.mp k8.1.2).2.2.1⟩
  unfold DR dB cB
  rw [l (d + 3) (by omega), l (d + 4) (by omega), l (d + 5) (by omega), l (d + 6) (by omega), l (d + 7) (by omega), m 69 (by decide) (by decide) (by decide), m 70 (by decide) (by decide) (by decide), m 71 (by decide) (by decide) (by decide), m 72 (by decide) (by decide) (by decide), m 73 (by decide) (by decide) (by decide), m 74 (by decide) (by decide) (by decide), m 75 (by decide) (by decide) (by decide), l0 0 (by decide), l0 1 (by decide), l0 2 (by decide), l0 10 (by decide), l0 11 (by decide), l0 12 (by decide), l0 13 (by decide), l0 14 (by decide), l0 15 (by decide)]
  refine ⟨⟨a1, a2, a3, a4⟩, ⟨b1, b2⟩, ⟨fun k hk => ?_, fun k hk => ?_, fun k hk => ?_, fun k hk => ?_⟩, ⟨e1, e2, e3, e4, e5⟩, f1, ⟨g1, g2, g3, g4, g5, g6⟩, fun t ht => ?_, i2⟩
  · rw [l1, m76, c1 k hk]
  · rw [l2, m77, c2 k hk]
  · rw [m76]
    by_cases w1 : k = wyB n tc p
    · rw [if_pos w1]; exact Or.inr ⟨_, v1, rfl⟩
    · rw [if_neg w1]
      by_cases w2 : k = wyA n tc p
      · rw [if_pos w2]; exact Or.inr ⟨_, v2, rfl⟩
      · rw [if_neg w2]; exact c3 k hk
  · rw [m77]
    by_cases w1 : k = wyB n tc p
    · rw [if_pos w1]; exact hwd
    · rw [if_neg w1]
      by_cases w2 : k = wyA n tc p
      · rw [if_pos w2]; exact hwd
      · rw [if_neg w2]; exact c4 k hk
  · rw [l16, m28]
    by_cases e : dg n tc (p + 3) = true
    · rw [if_pos e, if_pos e, b_or, b_or, i1 t ht]
    · rw [if_neg e, if_neg e, i1 t ht]
end K2
