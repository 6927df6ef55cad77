/-! ===== the law's loop ===== -/
theorem and15 (x : Int32) : ∃ v, v < 16 ∧ x &&& 15 = nI v := by
  refine ⟨(x &&& 15).toBitVec.toNat, ?_, ?_⟩
  · rw [Int32.toBitVec_and, BitVec.toNat_and]
    exact Nat.and_lt_two_pow (n := 4) _ (by decide)
  · apply Int32.toBitVec_inj.mp
    apply BitVec.eq_of_toNat_eq
    show _ = (BitVec.ofNat 32 _).toNat
    rw [BitVec.toNat_ofNat, Nat.mod_eq_of_lt (BitVec.isLt _)]
section L1
variable {I : Nat → Nat → Int32} {J : Nat → Nat → Int64} {R : Nat → Nat → Option Nat} {xs : Nat → Int32} {L : Nat}
theorem lw_loop (hL : L ≤ 2048) : ∀ j i (I : Nat → Nat → Int32) (R : Nat → Nat → Option Nat), L < i + 4 * j + 4 → i ≤ 4000 → GOOD I J R → tEv (xs, L) 0 18 [.ref 2000, .ref 0, .ref 56, .int (nI i)] [] ((tL, I, J, R), (84, 2287)) (fun r _ => r = some 1)
  | j, i, I, R, hj, hi, g => by
    have hnb : narrow .boolean (.int 1) = .int 1 := by decide
    have hL4 : (Int32.ofNat L - 4).toInt = (L : Int) - 4 := pk_sub_toInt (b := 4) (by omega) (by decide)
    rw [e_0_18]
    simp only [e_0_19, e_0_20, e_0_21, e_0_22, e_0_23, va_rf_some, push_s, push_n, nb0, nb1, nbb, Nat.reduceLT]
    by_cases c : i + 4 ≤ L
    · have e1 : ¬ (Int32.ofNat L - 4 < nI i) := by
        rw [Int32.lt_iff_toInt_lt, hL4, nI_toInt (by omega)]
        omega
      rw [if_neg e1]
      obtain ⟨j', rfl⟩ : ∃ j', j = j' + 1 := ⟨j - 1, by omega⟩
      have ih := lw_loop hL j' (i + 4)
      have s4 : nI i + 4 = nI (i + 4) := nI_add i 4
      have s1 : nI i + 1 = nI (i + 1) := nI_add i 1
      have s2 : nI i + 2 = nI (i + 2) := nI_add i 2
      have s3 : nI i + 3 = nI (i + 3) := nI_add i 3
      have x0 := inb_nI (j := i) (n := L) (by omega) (by omega)
      have x1 := inb_nI (j := i + 1) (n := L) (by omega) (by omega)
      have x2 := inb_nI (j := i + 2) (n := L) (by omega) (by omega)
      have x3 := inb_nI (j := i + 3) (n := L) (by omega) (by omega)
      have k0 := nI_cl (n := i) (by omega)
      have k1 := nI_cl (n := i + 1) (by omega)
      have k2 := nI_cl (n := i + 2) (by omega)
      have k3 := nI_cl (n := i + 3) (by omega)
      obtain ⟨v, hv, ev⟩ := and15 (xs i)
      simp only [e_0_26, e_0_27, e_0_28, e_0_29, e_0_31, va_rf_some, push_s, push_n, nb0, nb1, nbb, Nat.reduceLT, x0, k0, ev]
      have fin : ∀ (I' : Nat → Nat → Int32) (R' : Nat → Nat → Option Nat), GOOD I' J R' → tEv (xs, L) 0 446 [.ref 2000, .ref 0, .ref 56, .int (nI i)] [] ((tL, I', J, R'), (84, 2287)) (fun r _ => r = some 1) := fun I' R' g' => by
        simp only [e_0_446, e_0_449, s4]
        exact ih I' R' (by omega) (by omega) g'
      have k56 : tm_kn tL 56 = some 11 := kn_56
      have k0' : tm_kn tL 0 = some 10 := kn_0
      rcases (by omega : v = 0 ∨ v = 1 ∨ v = 2 ∨ v = 3 ∨ v = 4 ∨ v = 5 ∨ v = 6 ∨ v = 7 ∨ v = 8 ∨ v = 9 ∨ v = 10 ∨ v = 11 ∨ v = 12 ∨ v = 13 ∨ 13 < v) with q | q | q | q | q | q | q | q | q | q | q | q | q | q | q
      · subst q
        obtain ⟨w, I1, R1, I2, h1, h2, g2⟩ := st_write (E := (xs, L)) g (x := xs (i + 1))
        simp only [e_0_32_0, e_0_104, e_0_105, e_0_106, e_0_107, e_0_108, e_0_109, e_0_110, e_0_113, e_0_114, e_0_115, e_0_116, e_0_117, e_0_118, e_0_119, e_0_122, va_rf_some, push_s, push_n, nb0, nb1, nbb, Nat.reduceLT, k0', k56, s1, x1, k1, h1, h2, if_true]
        exact fin _ _ g2
      · subst q
        obtain ⟨w, I1, R1, I2, h1, h2, g2⟩ := st_wipe (E := (xs, L)) g
        simp only [e_0_32_1, e_0_127, e_0_128, e_0_131, e_0_132, e_0_135, va_rf_some, push_s, push_n, nb0, nb1, nbb, Nat.reduceLT, k0', k56, h1, h2, if_true]
        exact fin _ _ g2
      · subst q
        obtain ⟨w, I1, R1, I2, h1, h2, g2⟩ := st_fault (E := (xs, L)) g
        simp only [e_0_32_2, e_0_140, e_0_141, e_0_144, e_0_145, e_0_148, va_rf_some, push_s, push_n, nb0, nb1, nbb, Nat.reduceLT, k0', k56, h1, h2, if_true]
        exact fin _ _ g2
      · subst q
        obtain ⟨w, I1, R1, I2, h1, h2, g2⟩ := st_lay (E := (xs, L)) g
        simp only [e_0_32_3, e_0_153, e_0_154, e_0_157, e_0_158, e_0_161, va_rf_some, push_s, push_n, nb0, nb1, nbb, Nat.reduceLT, k0', k56, h1, h2, if_true]
        exact fin _ _ g2
      · subst q
        obtain ⟨w, I1, R1, I2, h1, h2, g2⟩ := st_say (E := (xs, L)) g
        simp only [e_0_32_4, e_0_166, e_0_167, e_0_170, e_0_171, e_0_174, va_rf_some, push_s, push_n, nb0, nb1, nbb, Nat.reduceLT, k0', k56, h1, h2, if_true]
        exact fin _ _ g2
      · subst q
        obtain ⟨w, I1, R1, I2, h1, h2, g2⟩ := st_undo (E := (xs, L)) g
        simp only [e_0_32_5, e_0_179, e_0_180, e_0_183, e_0_184, e_0_187, va_rf_some, push_s, push_n, nb0, nb1, nbb, Nat.reduceLT, k0', k56, h1, h2, if_true]
        exact fin _ _ g2
      · subst q
        obtain ⟨w, I1, R1, I2, h1, h2, g2⟩ := st_doubt (E := (xs, L)) g
        simp only [e_0_32_6, e_0_192, e_0_193, e_0_196, e_0_197, e_0_200, va_rf_some, push_s, push_n, nb0, nb1, nbb, Nat.reduceLT, k0', k56, h1, h2, if_true]
        exact fin _ _ g2
      · subst q
        obtain ⟨w, I1, R1, I2, h1, h2, g2⟩ := st_would (E := (xs, L)) g (a := xs (i + 1)) (x := xs (i + 2)) (z := xs (i + 3))
        simp only [e_0_32_7, e_0_205, e_0_206, e_0_207, e_0_208, e_0_209, e_0_210, e_0_211, e_0_212, e_0_213, e_0_214, e_0_215, e_0_216, e_0_217, e_0_218, e_0_219, e_0_220, e_0_221, e_0_224, e_0_225, e_0_226, e_0_227, e_0_228, e_0_229, e_0_230, e_0_231, e_0_232, e_0_233, e_0_234, e_0_235, e_0_236, e_0_237, e_0_238, e_0_239, e_0_240, e_0_243, va_rf_some, push_s, push_n, nb0, nb1, nbb, Nat.reduceLT, k0', k56, s1, s2, s3, x1, x2, x3, k1, k2, k3, h1, h2, if_true]
        exact fin _ _ g2
      · subst q
        obtain ⟨w, I1, R1, I2, h1, h2, g2⟩ := st_thing (E := (xs, L)) g (x := xs (i + 1)) (z := xs (i + 2))
        simp only [e_0_32_8, e_0_248, e_0_249, e_0_250, e_0_251, e_0_252, e_0_253, e_0_254, e_0_255, e_0_256, e_0_257, e_0_258, e_0_259, e_0_262, e_0_263, e_0_264, e_0_265, e_0_266, e_0_267, e_0_268, e_0_269, e_0_270, e_0_271, e_0_272, e_0_273, e_0_276, va_rf_some, push_s, push_n, nb0, nb1, nbb, Nat.reduceLT, k0', k56, s1, s2, x1, x2, k1, k2, h1, h2, if_true]
        exact fin _ _ g2
      · subst q
        obtain ⟨w, I1, R1, I2, h1, h2, g2⟩ := st_room (E := (xs, L)) g (x := xs (i + 1)) (z := xs (i + 2))
        simp only [e_0_32_9, e_0_281, e_0_282, e_0_283, e_0_284, e_0_285, e_0_286, e_0_287, e_0_288, e_0_289, e_0_290, e_0_291, e_0_292, e_0_295, e_0_296, e_0_297, e_0_298, e_0_299, e_0_300, e_0_301, e_0_302, e_0_303, e_0_304, e_0_305, e_0_306, e_0_309, va_rf_some, push_s, push_n, nb0, nb1, nbb, Nat.reduceLT, k0', k56, s1, s2, x1, x2, k1, k2, h1, h2, if_true]
        exact fin _ _ g2
      · subst q
        obtain ⟨w, I1, R1, I2, h1, h2, g2⟩ := st_way (E := (xs, L)) g (x := xs (i + 1)) (z := xs (i + 2))
        simp only [e_0_32_10, e_0_314, e_0_315, e_0_316, e_0_317, e_0_318, e_0_319, e_0_320, e_0_321, e_0_322, e_0_323, e_0_324, e_0_325, e_0_328, e_0_329, e_0_330, e_0_331, e_0_332, e_0_333, e_0_334, e_0_335, e_0_336, e_0_337, e_0_338, e_0_339, e_0_342, va_rf_some, push_s, push_n, nb0, nb1, nbb, Nat.reduceLT, k0', k56, s1, s2, x1, x2, k1, k2, h1, h2, if_true]
        exact fin _ _ g2
      · subst q
        obtain ⟨w, I1, R1, I2, h1, h2, g2⟩ := st_door (E := (xs, L)) g (x := xs (i + 1)) (z := xs (i + 2))
        simp only [e_0_32_11, e_0_347, e_0_348, e_0_349, e_0_350, e_0_351, e_0_352, e_0_353, e_0_354, e_0_355, e_0_356, e_0_357, e_0_358, e_0_361, e_0_362, e_0_363, e_0_364, e_0_365, e_0_366, e_0_367, e_0_368, e_0_369, e_0_370, e_0_371, e_0_372, e_0_375, va_rf_some, push_s, push_n, nb0, nb1, nbb, Nat.reduceLT, k0', k56, s1, s2, x1, x2, k1, k2, h1, h2, if_true]
        exact fin _ _ g2
      · subst q
        obtain ⟨w, I1, R1, I2, h1, h2, g2⟩ := st_steps (E := (xs, L)) g (x := xs (i + 1)) (z := xs (i + 2)) (w := xs (i + 3))
        simp only [e_0_32_12, e_0_380, e_0_381, e_0_382, e_0_383, e_0_384, e_0_385, e_0_386, e_0_387, e_0_388, e_0_389, e_0_390, e_0_391, e_0_392, e_0_393, e_0_394, e_0_395, e_0_396, e_0_399, e_0_400, e_0_401, e_0_402, e_0_403, e_0_404, e_0_405, e_0_406, e_0_407, e_0_408, e_0_409, e_0_410, e_0_411, e_0_412, e_0_413, e_0_414, e_0_415, e_0_418, va_rf_some, push_s, push_n, nb0, nb1, nbb, Nat.reduceLT, k0', k56, s1, s2, s3, x1, x2, x3, k1, k2, k3, h1, h2, if_true]
        exact fin _ _ g2
      · subst q
        obtain ⟨w, I1, R1, I2, h1, h2, g2⟩ := st_count (E := (xs, L)) g (x := xs (i + 1))
        simp only [e_0_32_13, e_0_423, e_0_424, e_0_425, e_0_426, e_0_427, e_0_428, e_0_429, e_0_432, e_0_433, e_0_434, e_0_435, e_0_436, e_0_437, e_0_438, e_0_441, va_rf_some, push_s, push_n, nb0, nb1, nbb, Nat.reduceLT, k0', k56, s1, x1, k1, h1, h2, if_true]
        exact fin _ _ g2
      · rw [e_0_32_d (Or.inr (by rw [nI_toInt (show v < 2147483648 by omega)]; omega))]
        exact fin _ _ g
    · have e1 : Int32.ofNat L - 4 < nI i := by
        rw [Int32.lt_iff_toInt_lt, hL4, nI_toInt (by omega)]
        omega
      rw [if_pos e1]
      simp only [e_0_452, e_0_453, hnb]
end L1
