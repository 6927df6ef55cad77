/-! ===== the model's constructor ===== -/
def pw (i : Nat) : Nat := if i < 104 then i else if i < 107 then 104 else i - 3
/-- the letter at i; three are zero, and are left out -/
def lc (i : Nat) : Nat := if 104 ≤ i ∧ i < 107 then 0 else chN 1 (pw i)
/-- the letters of the first house, packed by eights -/
def JL (J : Nat → Nat → Int64) : Prop := ∀ i, i < 112 → ((J 68 (nI i / 8).toNatClampNeg >>> ((8 * (7 - (nI i - nI i / 8 * 8))).toInt64 &&& 63)) &&& 255).toInt32 = nI (lc i)
theorem tR0_57 {k j : Nat} (hk : 57 ≤ k) : tR0 k j = none := by
  unfold tR0
  split
  all_goals first
    | rfl
    | omega
theorem tR0_56 {j : Nat} (hj : 39 ≤ j) : tR0 56 j = none := by
  unfold tR0
  split
  all_goals first
    | rfl
    | omega
    | (split <;> first | rfl | omega)
theorem tk_84 : tL.take 84 = tL := by decide
section M7
variable {E : tm_Env} {I : Nat → Nat → Int32} {R : Nat → Nat → Option Nat}
set_option maxHeartbeats 8000000 in
theorem m_made (hI : ∀ k, 56 ≤ k → I k = fun _ => 0) (hR : ∀ k, 56 ≤ k → R k = fun _ => none) : ∃ J1 R1, (JW J1 ∧ JL J1) ∧ (∀ k j, R1 k j = bigR R k j) ∧ ∀ Q, tEv E 64 0 [.ref 56, tm_dum, tm_dum] [] ((tL.take 57, I, fun _ _ => 0, R), (0, 0)) Q = tEv E 64 607 [.ref 56, .int (nI 0), tm_dum] [] ((tL, I, J1, R1), (27, 1184)) Q := by
  apply Exists.intro
  apply Exists.intro
  apply And.intro
  rotate_left
  apply And.intro
  rotate_left
  · intro Q
    have q0 : (0 : Int32).toNatClampNeg = 0 := by decide
    have p0 : tm_inb 0 43 = true := by decide
    have r0 : tm_inb 0 14 = true := by decide
    have q1 : (1 : Int32).toNatClampNeg = 1 := by decide
    have p1 : tm_inb 1 43 = true := by decide
    have r1 : tm_inb 1 14 = true := by decide
    have q2 : (2 : Int32).toNatClampNeg = 2 := by decide
    have p2 : tm_inb 2 43 = true := by decide
    have r2 : tm_inb 2 14 = true := by decide
    have q3 : (3 : Int32).toNatClampNeg = 3 := by decide
    have p3 : tm_inb 3 43 = true := by decide
    have r3 : tm_inb 3 14 = true := by decide
    have q4 : (4 : Int32).toNatClampNeg = 4 := by decide
    have p4 : tm_inb 4 43 = true := by decide
    have r4 : tm_inb 4 14 = true := by decide
    have q5 : (5 : Int32).toNatClampNeg = 5 := by decide
    have p5 : tm_inb 5 43 = true := by decide
    have r5 : tm_inb 5 14 = true := by decide
    have q6 : (6 : Int32).toNatClampNeg = 6 := by decide
    have p6 : tm_inb 6 43 = true := by decide
    have r6 : tm_inb 6 14 = true := by decide
    have q7 : (7 : Int32).toNatClampNeg = 7 := by decide
    have p7 : tm_inb 7 43 = true := by decide
    have r7 : tm_inb 7 14 = true := by decide
    have q8 : (8 : Int32).toNatClampNeg = 8 := by decide
    have p8 : tm_inb 8 43 = true := by decide
    have r8 : tm_inb 8 14 = true := by decide
    have q9 : (9 : Int32).toNatClampNeg = 9 := by decide
    have p9 : tm_inb 9 43 = true := by decide
    have r9 : tm_inb 9 14 = true := by decide
    have q10 : (10 : Int32).toNatClampNeg = 10 := by decide
    have p10 : tm_inb 10 43 = true := by decide
    have r10 : tm_inb 10 14 = true := by decide
    have q11 : (11 : Int32).toNatClampNeg = 11 := by decide
    have p11 : tm_inb 11 43 = true := by decide
    have r11 : tm_inb 11 14 = true := by decide
    have q12 : (12 : Int32).toNatClampNeg = 12 := by decide
    have p12 : tm_inb 12 43 = true := by decide
    have r12 : tm_inb 12 14 = true := by decide
    have q13 : (13 : Int32).toNatClampNeg = 13 := by decide
    have p13 : tm_inb 13 43 = true := by decide
    have r13 : tm_inb 13 14 = true := by decide
    have q14 : (14 : Int32).toNatClampNeg = 14 := by decide
    have p14 : tm_inb 14 43 = true := by decide
    have q15 : (15 : Int32).toNatClampNeg = 15 := by decide
    have p15 : tm_inb 15 43 = true := by decide
    have q16 : (16 : Int32).toNatClampNeg = 16 := by decide
    have p16 : tm_inb 16 43 = true := by decide
    have q17 : (17 : Int32).toNatClampNeg = 17 := by decide
    have p17 : tm_inb 17 43 = true := by decide
    have q18 : (18 : Int32).toNatClampNeg = 18 := by decide
    have p18 : tm_inb 18 43 = true := by decide
    have q19 : (19 : Int32).toNatClampNeg = 19 := by decide
    have p19 : tm_inb 19 43 = true := by decide
    have q20 : (20 : Int32).toNatClampNeg = 20 := by decide
    have p20 : tm_inb 20 43 = true := by decide
    have q21 : (21 : Int32).toNatClampNeg = 21 := by decide
    have p21 : tm_inb 21 43 = true := by decide
    have q22 : (22 : Int32).toNatClampNeg = 22 := by decide
    have p22 : tm_inb 22 43 = true := by decide
    have q23 : (23 : Int32).toNatClampNeg = 23 := by decide
    have p23 : tm_inb 23 43 = true := by decide
    have q24 : (24 : Int32).toNatClampNeg = 24 := by decide
    have p24 : tm_inb 24 43 = true := by decide
    have q25 : (25 : Int32).toNatClampNeg = 25 := by decide
    have p25 : tm_inb 25 43 = true := by decide
    have q26 : (26 : Int32).toNatClampNeg = 26 := by decide
    have p26 : tm_inb 26 43 = true := by decide
    have q27 : (27 : Int32).toNatClampNeg = 27 := by decide
    have p27 : tm_inb 27 43 = true := by decide
    have q28 : (28 : Int32).toNatClampNeg = 28 := by decide
    have p28 : tm_inb 28 43 = true := by decide
    have q29 : (29 : Int32).toNatClampNeg = 29 := by decide
    have p29 : tm_inb 29 43 = true := by decide
    have q30 : (30 : Int32).toNatClampNeg = 30 := by decide
    have p30 : tm_inb 30 43 = true := by decide
    have q31 : (31 : Int32).toNatClampNeg = 31 := by decide
    have p31 : tm_inb 31 43 = true := by decide
    have q32 : (32 : Int32).toNatClampNeg = 32 := by decide
    have p32 : tm_inb 32 43 = true := by decide
    have q33 : (33 : Int32).toNatClampNeg = 33 := by decide
    have p33 : tm_inb 33 43 = true := by decide
    have q34 : (34 : Int32).toNatClampNeg = 34 := by decide
    have p34 : tm_inb 34 43 = true := by decide
    have q35 : (35 : Int32).toNatClampNeg = 35 := by decide
    have p35 : tm_inb 35 43 = true := by decide
    have q36 : (36 : Int32).toNatClampNeg = 36 := by decide
    have p36 : tm_inb 36 43 = true := by decide
    have q37 : (37 : Int32).toNatClampNeg = 37 := by decide
    have p37 : tm_inb 37 43 = true := by decide
    have q38 : (38 : Int32).toNatClampNeg = 38 := by decide
    have p38 : tm_inb 38 43 = true := by decide
    have q39 : (39 : Int32).toNatClampNeg = 39 := by decide
    have p39 : tm_inb 39 43 = true := by decide
    have q40 : (40 : Int32).toNatClampNeg = 40 := by decide
    have p40 : tm_inb 40 43 = true := by decide
    have q41 : (41 : Int32).toNatClampNeg = 41 := by decide
    have p41 : tm_inb 41 43 = true := by decide
    have q42 : (42 : Int32).toNatClampNeg = 42 := by decide
    have p42 : tm_inb 42 43 = true := by decide
    have z0 : nI 0 = 0 := rfl
    have t84 : tL.length = 84 := by decide
    rw [z0]
    simp only [e_64_0, e_64_1, e_64_4, e_64_5, e_64_10, e_64_13, e_64_14, e_64_18, e_64_21, e_64_22, e_64_26, e_64_29, e_64_30, e_64_34, e_64_37, e_64_38, e_64_42, e_64_45, e_64_46, e_64_50, e_64_53, e_64_54, e_64_58, e_64_61, e_64_62, e_64_66, e_64_69, e_64_70, e_64_74, e_64_77, e_64_78, e_64_83, e_64_86, e_64_87, e_64_8, e_64_16, e_64_24, e_64_32, e_64_40, e_64_48, e_64_56, e_64_64, e_64_72, e_64_81, e_64_89, tk_kn, tk_ln, tk_len, vb_nil, vb_ref, vb_big, vb_int, vb_dum, vu, vu_vu, va_rf_some, push_s, push_n, Nat.reduceAdd, Nat.reduceLT, Nat.reduceLeDiff, Nat.reduceEqDiff, if_true, if_false, kn_0, kn_1, kn_2, kn_3, kn_4, kn_5, kn_6, kn_7, kn_8, kn_9, kn_10, kn_11, kn_12, kn_13, kn_14, kn_15, kn_16, kn_17, kn_18, kn_19, kn_20, kn_21, kn_22, kn_23, kn_24, kn_25, kn_26, kn_27, kn_28, kn_29, kn_30, kn_31, kn_32, kn_33, kn_34, kn_35, kn_36, kn_37, kn_38, kn_39, kn_40, kn_41, kn_42, kn_43, kn_44, kn_45, kn_46, kn_47, kn_48, kn_49, kn_50, kn_51, kn_52, kn_53, kn_54, kn_55, kn_56, kn_57, kn_58, kn_59, kn_60, kn_61, kn_62, kn_63, kn_64, kn_65, kn_66, kn_67, kn_68, kn_69, kn_70, kn_71, kn_72, kn_73, kn_74, kn_75, kn_76, kn_77, kn_78, kn_79, kn_80, kn_81, kn_82, kn_83, ln_2, ln_5, ln_6, ln_7, ln_8, ln_9, ln_10, ln_11, ln_14, ln_15, ln_16, ln_17, ln_18, ln_19, ln_20, ln_22, ln_23, ln_26, ln_28, ln_29, ln_31, ln_32, ln_34, ln_35, ln_37, ln_38, ln_40, ln_41, ln_43, ln_44, ln_46, ln_47, ln_49, ln_50, ln_52, ln_57, ln_58, ln_59, ln_60, ln_61, ln_62, ln_63, ln_64, ln_65, ln_66, ln_67, ln_68, ln_69, ln_70, ln_71, ln_72, ln_73, ln_74, ln_75, ln_76, ln_77, ln_78, ln_79, ln_80, ln_81, ln_82, ln_83, tg_0, tg_1, tg_2, tg_3, tg_4, tg_5, tg_6, tg_7, tg_8, tg_9, tg_10, tg_11, tg_12, tg_13, tg_14, tg_15, tg_16, tg_17, tg_18, tg_19, tg_20, tg_21, tg_22, tg_23, tg_24, tg_25, tg_26, tg_27, tg_28, tg_29, tg_30, tg_31, tg_32, tg_33, tg_34, tg_35, tg_36, tg_37, tg_38, tg_39, tg_40, tg_41, tg_42, tg_43, tg_44, tg_45, tg_46, tg_47, tg_48, tg_49, tg_50, tg_51, tg_52, tg_53, tg_54, tg_55, tg_56, tg_57, tg_58, tg_59, tg_60, tg_61, tg_62, tg_63, tg_64, tg_65, tg_66, tg_67, tg_68, tg_69, tg_70, tg_71, tg_72, tg_73, tg_74, tg_75, tg_76, tg_77, tg_78, tg_79, tg_80, tg_81, tg_82, tg_83, hI, hR]
    simp only [e_64_91, e_64_92, e_64_93, e_64_96, e_64_97, e_64_98, e_64_99, e_64_102, e_64_103, e_64_104, e_64_105, e_64_108, e_64_109, e_64_110, e_64_111, e_64_114, e_64_115, e_64_116, e_64_117, e_64_120, e_64_121, e_64_122, e_64_123, e_64_126, e_64_127, e_64_128, e_64_130, e_64_133, e_64_134, e_64_135, e_64_137, e_64_140, e_64_141, e_64_142, e_64_144, e_64_147, e_64_148, e_64_149, e_64_151, e_64_154, e_64_155, e_64_156, e_64_158, e_64_161, e_64_162, e_64_163, e_64_165, e_64_168, e_64_169, e_64_170, e_64_172, e_64_175, e_64_176, e_64_177, e_64_179, e_64_182, e_64_183, e_64_184, e_64_186, e_64_189, e_64_190, e_64_191, e_64_193, e_64_196, e_64_197, e_64_198, e_64_200, e_64_203, e_64_204, e_64_205, e_64_207, e_64_210, e_64_211, e_64_212, e_64_214, e_64_217, e_64_218, e_64_219, e_64_221, e_64_224, e_64_225, e_64_226, e_64_228, e_64_231, e_64_232, e_64_233, e_64_235, e_64_238, e_64_239, e_64_240, e_64_242, e_64_245, e_64_246, e_64_247, e_64_249, e_64_252, e_64_253, e_64_254, e_64_256, e_64_259, e_64_260, e_64_261, e_64_263, e_64_266, e_64_267, e_64_268, e_64_270, e_64_273, e_64_274, e_64_275, e_64_277, e_64_280, e_64_281, e_64_282, e_64_284, e_64_287, e_64_288, e_64_289, e_64_291, e_64_294, e_64_295, e_64_296, e_64_298, e_64_301, e_64_302, e_64_303, e_64_305, e_64_308, e_64_309, e_64_310, e_64_312, e_64_315, e_64_316, e_64_317, e_64_319, e_64_322, e_64_323, e_64_324, e_64_326, e_64_329, e_64_330, e_64_331, e_64_333, e_64_336, e_64_337, e_64_338, e_64_340, e_64_343, e_64_344, e_64_345, e_64_347, e_64_350, e_64_351, e_64_352, e_64_354, e_64_357, e_64_358, e_64_359, e_64_361, e_64_364, e_64_365, e_64_366, e_64_368, e_64_371, e_64_372, e_64_373, e_64_375, e_64_378, e_64_379, e_64_380, e_64_382, e_64_385, e_64_386, tk_kn, tk_ln, tk_len, vb_nil, vb_ref, vb_big, vb_int, vb_dum, vu, vu_vu, va_rf_some, push_s, push_n, Nat.reduceAdd, Nat.reduceLT, Nat.reduceLeDiff, Nat.reduceEqDiff, if_true, if_false, kn_0, kn_1, kn_2, kn_3, kn_4, kn_5, kn_6, kn_7, kn_8, kn_9, kn_10, kn_11, kn_12, kn_13, kn_14, kn_15, kn_16, kn_17, kn_18, kn_19, kn_20, kn_21, kn_22, kn_23, kn_24, kn_25, kn_26, kn_27, kn_28, kn_29, kn_30, kn_31, kn_32, kn_33, kn_34, kn_35, kn_36, kn_37, kn_38, kn_39, kn_40, kn_41, kn_42, kn_43, kn_44, kn_45, kn_46, kn_47, kn_48, kn_49, kn_50, kn_51, kn_52, kn_53, kn_54, kn_55, kn_56, kn_57, kn_58, kn_59, kn_60, kn_61, kn_62, kn_63, kn_64, kn_65, kn_66, kn_67, kn_68, kn_69, kn_70, kn_71, kn_72, kn_73, kn_74, kn_75, kn_76, kn_77, kn_78, kn_79, kn_80, kn_81, kn_82, kn_83, ln_2, ln_5, ln_6, ln_7, ln_8, ln_9, ln_10, ln_11, ln_14, ln_15, ln_16, ln_17, ln_18, ln_19, ln_20, ln_22, ln_23, ln_26, ln_28, ln_29, ln_31, ln_32, ln_34, ln_35, ln_37, ln_38, ln_40, ln_41, ln_43, ln_44, ln_46, ln_47, ln_49, ln_50, ln_52, ln_57, ln_58, ln_59, ln_60, ln_61, ln_62, ln_63, ln_64, ln_65, ln_66, ln_67, ln_68, ln_69, ln_70, ln_71, ln_72, ln_73, ln_74, ln_75, ln_76, ln_77, ln_78, ln_79, ln_80, ln_81, ln_82, ln_83, tg_0, tg_1, tg_2, tg_3, tg_4, tg_5, tg_6, tg_7, tg_8, tg_9, tg_10, tg_11, tg_12, tg_13, tg_14, tg_15, tg_16, tg_17, tg_18, tg_19, tg_20, tg_21, tg_22, tg_23, tg_24, tg_25, tg_26, tg_27, tg_28, tg_29, tg_30, tg_31, tg_32, tg_33, tg_34, tg_35, tg_36, tg_37, tg_38, tg_39, tg_40, tg_41, tg_42, tg_43, tg_44, tg_45, tg_46, tg_47, tg_48, tg_49, tg_50, tg_51, tg_52, tg_53, tg_54, tg_55, tg_56, tg_57, tg_58, tg_59, tg_60, tg_61, tg_62, tg_63, tg_64, tg_65, tg_66, tg_67, tg_68, tg_69, tg_70, tg_71, tg_72, tg_73, tg_74, tg_75, tg_76, tg_77, tg_78, tg_79, tg_80, tg_81, tg_82, tg_83, q0, p0, q1, p1, q2, p2, q3, p3, q4, p4, q5, p5, q6, p6, q7, p7, q8, p8, q9, p9, q10, p10, q11, p11, q12, p12, q13, p13, q14, p14, q15, p15, q16, p16, q17, p17, q18, p18, q19, p19, q20, p20, q21, p21, q22, p22, q23, p23, q24, p24, q25, p25, q26, p26, q27, p27, q28, p28, q29, p29, q30, p30, q31, p31, q32, p32, q33, p33, q34, p34, q35, p35, q36, p36, q37, p37, q38, p38, q39, p39, q40, p40, q41, p41, q42, p42]
    simp only [e_64_389, e_64_390, e_64_392, tk_kn, tk_ln, tk_len, vb_nil, vb_ref, vb_big, vb_int, vb_dum, vu, vu_vu, va_rf_some, push_s, push_n, Nat.reduceAdd, Nat.reduceLT, Nat.reduceLeDiff, Nat.reduceEqDiff, if_true, if_false, kn_0, kn_1, kn_2, kn_3, kn_4, kn_5, kn_6, kn_7, kn_8, kn_9, kn_10, kn_11, kn_12, kn_13, kn_14, kn_15, kn_16, kn_17, kn_18, kn_19, kn_20, kn_21, kn_22, kn_23, kn_24, kn_25, kn_26, kn_27, kn_28, kn_29, kn_30, kn_31, kn_32, kn_33, kn_34, kn_35, kn_36, kn_37, kn_38, kn_39, kn_40, kn_41, kn_42, kn_43, kn_44, kn_45, kn_46, kn_47, kn_48, kn_49, kn_50, kn_51, kn_52, kn_53, kn_54, kn_55, kn_56, kn_57, kn_58, kn_59, kn_60, kn_61, kn_62, kn_63, kn_64, kn_65, kn_66, kn_67, kn_68, kn_69, kn_70, kn_71, kn_72, kn_73, kn_74, kn_75, kn_76, kn_77, kn_78, kn_79, kn_80, kn_81, kn_82, kn_83, ln_2, ln_5, ln_6, ln_7, ln_8, ln_9, ln_10, ln_11, ln_14, ln_15, ln_16, ln_17, ln_18, ln_19, ln_20, ln_22, ln_23, ln_26, ln_28, ln_29, ln_31, ln_32, ln_34, ln_35, ln_37, ln_38, ln_40, ln_41, ln_43, ln_44, ln_46, ln_47, ln_49, ln_50, ln_52, ln_57, ln_58, ln_59, ln_60, ln_61, ln_62, ln_63, ln_64, ln_65, ln_66, ln_67, ln_68, ln_69, ln_70, ln_71, ln_72, ln_73, ln_74, ln_75, ln_76, ln_77, ln_78, ln_79, ln_80, ln_81, ln_82, ln_83, tg_0, tg_1, tg_2, tg_3, tg_4, tg_5, tg_6, tg_7, tg_8, tg_9, tg_10, tg_11, tg_12, tg_13, tg_14, tg_15, tg_16, tg_17, tg_18, tg_19, tg_20, tg_21, tg_22, tg_23, tg_24, tg_25, tg_26, tg_27, tg_28, tg_29, tg_30, tg_31, tg_32, tg_33, tg_34, tg_35, tg_36, tg_37, tg_38, tg_39, tg_40, tg_41, tg_42, tg_43, tg_44, tg_45, tg_46, tg_47, tg_48, tg_49, tg_50, tg_51, tg_52, tg_53, tg_54, tg_55, tg_56, tg_57, tg_58, tg_59, tg_60, tg_61, tg_62, tg_63, tg_64, tg_65, tg_66, tg_67, tg_68, tg_69, tg_70, tg_71, tg_72, tg_73, tg_74, tg_75, tg_76, tg_77, tg_78, tg_79, tg_80, tg_81, tg_82, tg_83, hI, hR]
    simp only [e_64_394, e_64_395, e_64_396, e_64_399, e_64_400, e_64_401, e_64_402, e_64_405, e_64_406, e_64_407, e_64_408, e_64_411, e_64_412, e_64_413, e_64_414, e_64_417, e_64_418, e_64_419, e_64_420, e_64_423, e_64_424, e_64_425, e_64_426, e_64_429, e_64_430, e_64_431, e_64_433, e_64_436, e_64_437, e_64_438, e_64_440, e_64_443, e_64_444, e_64_445, e_64_447, e_64_450, e_64_451, e_64_452, e_64_454, e_64_457, e_64_458, e_64_459, e_64_461, e_64_464, e_64_465, e_64_466, e_64_468, e_64_471, e_64_472, e_64_473, e_64_475, e_64_478, e_64_479, e_64_480, e_64_482, e_64_485, e_64_486, tk_kn, tk_ln, tk_len, vb_nil, vb_ref, vb_big, vb_int, vb_dum, vu, vu_vu, va_rf_some, push_s, push_n, Nat.reduceAdd, Nat.reduceLT, Nat.reduceLeDiff, Nat.reduceEqDiff, if_true, if_false, kn_0, kn_1, kn_2, kn_3, kn_4, kn_5, kn_6, kn_7, kn_8, kn_9, kn_10, kn_11, kn_12, kn_13, kn_14, kn_15, kn_16, kn_17, kn_18, kn_19, kn_20, kn_21, kn_22, kn_23, kn_24, kn_25, kn_26, kn_27, kn_28, kn_29, kn_30, kn_31, kn_32, kn_33, kn_34, kn_35, kn_36, kn_37, kn_38, kn_39, kn_40, kn_41, kn_42, kn_43, kn_44, kn_45, kn_46, kn_47, kn_48, kn_49, kn_50, kn_51, kn_52, kn_53, kn_54, kn_55, kn_56, kn_57, kn_58, kn_59, kn_60, kn_61, kn_62, kn_63, kn_64, kn_65, kn_66, kn_67, kn_68, kn_69, kn_70, kn_71, kn_72, kn_73, kn_74, kn_75, kn_76, kn_77, kn_78, kn_79, kn_80, kn_81, kn_82, kn_83, ln_2, ln_5, ln_6, ln_7, ln_8, ln_9, ln_10, ln_11, ln_14, ln_15, ln_16, ln_17, ln_18, ln_19, ln_20, ln_22, ln_23, ln_26, ln_28, ln_29, ln_31, ln_32, ln_34, ln_35, ln_37, ln_38, ln_40, ln_41, ln_43, ln_44, ln_46, ln_47, ln_49, ln_50, ln_52, ln_57, ln_58, ln_59, ln_60, ln_61, ln_62, ln_63, ln_64, ln_65, ln_66, ln_67, ln_68, ln_69, ln_70, ln_71, ln_72, ln_73, ln_74, ln_75, ln_76, ln_77, ln_78, ln_79, ln_80, ln_81, ln_82, ln_83, tg_0, tg_1, tg_2, tg_3, tg_4, tg_5, tg_6, tg_7, tg_8, tg_9, tg_10, tg_11, tg_12, tg_13, tg_14, tg_15, tg_16, tg_17, tg_18, tg_19, tg_20, tg_21, tg_22, tg_23, tg_24, tg_25, tg_26, tg_27, tg_28, tg_29, tg_30, tg_31, tg_32, tg_33, tg_34, tg_35, tg_36, tg_37, tg_38, tg_39, tg_40, tg_41, tg_42, tg_43, tg_44, tg_45, tg_46, tg_47, tg_48, tg_49, tg_50, tg_51, tg_52, tg_53, tg_54, tg_55, tg_56, tg_57, tg_58, tg_59, tg_60, tg_61, tg_62, tg_63, tg_64, tg_65, tg_66, tg_67, tg_68, tg_69, tg_70, tg_71, tg_72, tg_73, tg_74, tg_75, tg_76, tg_77, tg_78, tg_79, tg_80, tg_81, tg_82, tg_83, q0, r0, q1, r1, q2, r2, q3, r3, q4, r4, q5, r5, q6, r6, q7, r7, q8, r8, q9, r9, q10, r10, q11, r11, q12, r12, q13, r13]
    simp only [e_64_489, e_64_490, e_64_494, e_64_497, e_64_498, e_64_502, e_64_505, e_64_506, e_64_510, e_64_513, e_64_514, e_64_518, e_64_521, e_64_522, e_64_526, e_64_529, e_64_530, e_64_534, e_64_537, e_64_538, e_64_542, e_64_545, e_64_546, e_64_550, e_64_553, e_64_554, e_64_558, e_64_561, e_64_562, e_64_566, e_64_569, e_64_570, e_64_573, e_64_576, e_64_577, e_64_580, e_64_583, e_64_584, e_64_587, e_64_590, e_64_591, e_64_594, e_64_597, e_64_598, e_64_602, e_64_605, e_64_606, e_64_492, e_64_500, e_64_508, e_64_516, e_64_524, e_64_532, e_64_540, e_64_548, e_64_556, e_64_564, e_64_571, e_64_578, e_64_585, e_64_592, e_64_600, tk_kn, tk_ln, tk_len, vb_nil, vb_ref, vb_big, vb_int, vb_dum, vu, vu_vu, va_rf_some, push_s, push_n, Nat.reduceAdd, Nat.reduceLT, Nat.reduceLeDiff, Nat.reduceEqDiff, if_true, if_false, kn_0, kn_1, kn_2, kn_3, kn_4, kn_5, kn_6, kn_7, kn_8, kn_9, kn_10, kn_11, kn_12, kn_13, kn_14, kn_15, kn_16, kn_17, kn_18, kn_19, kn_20, kn_21, kn_22, kn_23, kn_24, kn_25, kn_26, kn_27, kn_28, kn_29, kn_30, kn_31, kn_32, kn_33, kn_34, kn_35, kn_36, kn_37, kn_38, kn_39, kn_40, kn_41, kn_42, kn_43, kn_44, kn_45, kn_46, kn_47, kn_48, kn_49, kn_50, kn_51, kn_52, kn_53, kn_54, kn_55, kn_56, kn_57, kn_58, kn_59, kn_60, kn_61, kn_62, kn_63, kn_64, kn_65, kn_66, kn_67, kn_68, kn_69, kn_70, kn_71, kn_72, kn_73, kn_74, kn_75, kn_76, kn_77, kn_78, kn_79, kn_80, kn_81, kn_82, kn_83, ln_2, ln_5, ln_6, ln_7, ln_8, ln_9, ln_10, ln_11, ln_14, ln_15, ln_16, ln_17, ln_18, ln_19, ln_20, ln_22, ln_23, ln_26, ln_28, ln_29, ln_31, ln_32, ln_34, ln_35, ln_37, ln_38, ln_40, ln_41, ln_43, ln_44, ln_46, ln_47, ln_49, ln_50, ln_52, ln_57, ln_58, ln_59, ln_60, ln_61, ln_62, ln_63, ln_64, ln_65, ln_66, ln_67, ln_68, ln_69, ln_70, ln_71, ln_72, ln_73, ln_74, ln_75, ln_76, ln_77, ln_78, ln_79, ln_80, ln_81, ln_82, ln_83, tg_0, tg_1, tg_2, tg_3, tg_4, tg_5, tg_6, tg_7, tg_8, tg_9, tg_10, tg_11, tg_12, tg_13, tg_14, tg_15, tg_16, tg_17, tg_18, tg_19, tg_20, tg_21, tg_22, tg_23, tg_24, tg_25, tg_26, tg_27, tg_28, tg_29, tg_30, tg_31, tg_32, tg_33, tg_34, tg_35, tg_36, tg_37, tg_38, tg_39, tg_40, tg_41, tg_42, tg_43, tg_44, tg_45, tg_46, tg_47, tg_48, tg_49, tg_50, tg_51, tg_52, tg_53, tg_54, tg_55, tg_56, tg_57, tg_58, tg_59, tg_60, tg_61, tg_62, tg_63, tg_64, tg_65, tg_66, tg_67, tg_68, tg_69, tg_70, tg_71, tg_72, tg_73, tg_74, tg_75, tg_76, tg_77, tg_78, tg_79, tg_80, tg_81, tg_82, tg_83, hI, hR, tk_84, t84]
    rfl
  · exact ⟨by unfold JW; decide +kernel, by unfold JL; decide +kernel⟩
  · intro k j
    unfold bigR
    by_cases hk : k < 56
    · rw [if_pos hk, vu, if_neg (by omega)]
    · rw [if_neg hk]
      by_cases e : k = 56
      · subst e
        by_cases hj : j < 39
        · rw [vu_eq]
          revert j
          decide +kernel
        · rw [tR0_56 (by omega)]
          have hj2 : ∀ m, m < 39 → (j = m) = False := fun m hm => eq_false (by omega)
          simp only [vu, if_true, hj2 0 (by decide), hj2 1 (by decide), hj2 2 (by decide), hj2 3 (by decide), hj2 4 (by decide), hj2 5 (by decide), hj2 6 (by decide), hj2 7 (by decide), hj2 8 (by decide), hj2 9 (by decide), hj2 10 (by decide), hj2 11 (by decide), hj2 12 (by decide), hj2 13 (by decide), hj2 14 (by decide), hj2 15 (by decide), hj2 16 (by decide), hj2 17 (by decide), hj2 18 (by decide), hj2 19 (by decide), hj2 20 (by decide), hj2 21 (by decide), hj2 22 (by decide), hj2 23 (by decide), hj2 24 (by decide), hj2 25 (by decide), hj2 26 (by decide), hj2 27 (by decide), hj2 28 (by decide), hj2 29 (by decide), hj2 30 (by decide), hj2 31 (by decide), hj2 32 (by decide), hj2 33 (by decide), hj2 34 (by decide), hj2 35 (by decide), hj2 36 (by decide), hj2 37 (by decide), hj2 38 (by decide), if_false]
      · rw [tR0_57 (by omega), vu, if_neg e, hR k (by omega)]
end M7
