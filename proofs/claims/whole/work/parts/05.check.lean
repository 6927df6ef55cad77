/-! ===== every instruction of the tables is the code's own ===== -/
set_option maxRecDepth 100000 in
theorem tm_all_0 : (List.range 1).all (fun i => tm_okm (0 + i)) = true := by decide +kernel
set_option maxRecDepth 100000 in
theorem tm_all_1 : (List.range 19).all (fun i => tm_okm (1 + i)) = true := by decide +kernel
set_option maxRecDepth 100000 in
theorem tm_all_20 : (List.range 9).all (fun i => tm_okm (20 + i)) = true := by decide +kernel
set_option maxRecDepth 100000 in
theorem tm_all_29 : (List.range 10).all (fun i => tm_okm (29 + i)) = true := by decide +kernel
set_option maxRecDepth 100000 in
theorem tm_all_39 : (List.range 6).all (fun i => tm_okm (39 + i)) = true := by decide +kernel
set_option maxRecDepth 100000 in
theorem tm_all_45 : (List.range 11).all (fun i => tm_okm (45 + i)) = true := by decide +kernel
set_option maxRecDepth 100000 in
theorem tm_all_56 : (List.range 4).all (fun i => tm_okm (56 + i)) = true := by decide +kernel
set_option maxRecDepth 100000 in
theorem tm_all_60 : (List.range 3).all (fun i => tm_okm (60 + i)) = true := by decide +kernel
set_option maxRecDepth 100000 in
theorem tm_all_63 : (List.range 2).all (fun i => tm_okm (63 + i)) = true := by decide +kernel
set_option maxRecDepth 100000 in
theorem tm_all_65 : (List.range 12).all (fun i => tm_okm (65 + i)) = true := by decide +kernel
set_option maxRecDepth 100000 in
theorem tm_all_77 : (List.range 9).all (fun i => tm_okm (77 + i)) = true := by decide +kernel
set_option maxRecDepth 100000 in
theorem tm_all_86 : (List.range 11).all (fun i => tm_okm (86 + i)) = true := by decide +kernel
set_option maxRecDepth 100000 in
theorem tm_all_97 : (List.range 9).all (fun i => tm_okm (97 + i)) = true := by decide +kernel
set_option maxRecDepth 100000 in
theorem tm_all_106 : (List.range 8).all (fun i => tm_okm (106 + i)) = true := by decide +kernel
set_option maxRecDepth 100000 in
theorem tm_all_114 : (List.range 6).all (fun i => tm_okm (114 + i)) = true := by decide +kernel
set_option maxRecDepth 100000 in
theorem tm_all_120 : (List.range 8).all (fun i => tm_okm (120 + i)) = true := by decide +kernel
set_option maxRecDepth 100000 in
theorem tm_all_128 : (List.range 9).all (fun i => tm_okm (128 + i)) = true := by decide +kernel
set_option maxRecDepth 100000 in
theorem tm_all_137 : (List.range 9).all (fun i => tm_okm (137 + i)) = true := by decide +kernel
set_option maxRecDepth 100000 in
theorem tm_all_146 : (List.range 9).all (fun i => tm_okm (146 + i)) = true := by decide +kernel
set_option maxRecDepth 100000 in
theorem tm_all_155 : (List.range 10).all (fun i => tm_okm (155 + i)) = true := by decide +kernel
set_option maxRecDepth 100000 in
theorem tm_all_165 : (List.range 4).all (fun i => tm_okm (165 + i)) = true := by decide +kernel
set_option maxRecDepth 100000 in
theorem tm_all_169 : (List.range 7).all (fun i => tm_okm (169 + i)) = true := by decide +kernel
set_option maxRecDepth 100000 in
theorem tm_all_176 : (List.range 5).all (fun i => tm_okm (176 + i)) = true := by decide +kernel
set_option maxRecDepth 100000 in
theorem tm_all_181 : (List.range 8).all (fun i => tm_okm (181 + i)) = true := by decide +kernel
set_option maxRecDepth 100000 in
theorem tm_all_189 : (List.range 10).all (fun i => tm_okm (189 + i)) = true := by decide +kernel
set_option maxRecDepth 100000 in
theorem tm_all_199 : (List.range 6).all (fun i => tm_okm (199 + i)) = true := by decide +kernel
set_option maxRecDepth 100000 in
theorem tm_all_205 : (List.range 7).all (fun i => tm_okm (205 + i)) = true := by decide +kernel
set_option maxRecDepth 100000 in
theorem tm_all_212 : (List.range 2).all (fun i => tm_okm (212 + i)) = true := by decide +kernel
theorem tm_all_of {lo n k : Nat} (h : (List.range n).all (fun i => tm_okm (lo + i)) = true) (h1 : lo ≤ k) (h2 : k < lo + n) : tm_okm k = true := by
  have h3 := List.all_eq_true.mp h (k - lo) (List.mem_range.mpr (by omega))
  rwa [Nat.add_sub_cancel' h1] at h3
theorem tm_all {k : Nat} (hk : k < tm_N) : tm_okm k = true := by
  have hk : k < 214 := hk
  by_cases h0 : k < 1
  · exact tm_all_of tm_all_0 (by omega) (by omega)
  by_cases h1 : k < 20
  · exact tm_all_of tm_all_1 (by omega) (by omega)
  by_cases h20 : k < 29
  · exact tm_all_of tm_all_20 (by omega) (by omega)
  by_cases h29 : k < 39
  · exact tm_all_of tm_all_29 (by omega) (by omega)
  by_cases h39 : k < 45
  · exact tm_all_of tm_all_39 (by omega) (by omega)
  by_cases h45 : k < 56
  · exact tm_all_of tm_all_45 (by omega) (by omega)
  by_cases h56 : k < 60
  · exact tm_all_of tm_all_56 (by omega) (by omega)
  by_cases h60 : k < 63
  · exact tm_all_of tm_all_60 (by omega) (by omega)
  by_cases h63 : k < 65
  · exact tm_all_of tm_all_63 (by omega) (by omega)
  by_cases h65 : k < 77
  · exact tm_all_of tm_all_65 (by omega) (by omega)
  by_cases h77 : k < 86
  · exact tm_all_of tm_all_77 (by omega) (by omega)
  by_cases h86 : k < 97
  · exact tm_all_of tm_all_86 (by omega) (by omega)
  by_cases h97 : k < 106
  · exact tm_all_of tm_all_97 (by omega) (by omega)
  by_cases h106 : k < 114
  · exact tm_all_of tm_all_106 (by omega) (by omega)
  by_cases h114 : k < 120
  · exact tm_all_of tm_all_114 (by omega) (by omega)
  by_cases h120 : k < 128
  · exact tm_all_of tm_all_120 (by omega) (by omega)
  by_cases h128 : k < 137
  · exact tm_all_of tm_all_128 (by omega) (by omega)
  by_cases h137 : k < 146
  · exact tm_all_of tm_all_137 (by omega) (by omega)
  by_cases h146 : k < 155
  · exact tm_all_of tm_all_146 (by omega) (by omega)
  by_cases h155 : k < 165
  · exact tm_all_of tm_all_155 (by omega) (by omega)
  by_cases h165 : k < 169
  · exact tm_all_of tm_all_165 (by omega) (by omega)
  by_cases h169 : k < 176
  · exact tm_all_of tm_all_169 (by omega) (by omega)
  by_cases h176 : k < 181
  · exact tm_all_of tm_all_176 (by omega) (by omega)
  by_cases h181 : k < 189
  · exact tm_all_of tm_all_181 (by omega) (by omega)
  by_cases h189 : k < 199
  · exact tm_all_of tm_all_189 (by omega) (by omega)
  by_cases h199 : k < 205
  · exact tm_all_of tm_all_199 (by omega) (by omega)
  by_cases h205 : k < 212
  · exact tm_all_of tm_all_205 (by omega) (by omega)
  exact tm_all_of tm_all_212 (by omega) (by omega)
theorem tm_prog_ok {k pc : Nat} {x : tm_Ins} (h : tm_prog k pc = some x) : k < tm_N ∧ tm_okm k = true ∧ tm_ok k pc x = true := by
  unfold tm_prog at h
  cases h1 : Nat.ble tm_N k with
  | true => rw [h1] at h; cases h
  | false =>
    cases h2 : Nat.ble (tm_n k) pc with
    | true => rw [h1, h2] at h; cases h
    | false =>
      rw [h1, h2] at h
      have hk : k < tm_N := by
        rcases Nat.lt_or_ge k tm_N with q | q
        · exact q
        · rw [Nat.ble_eq_true_of_le q] at h1; cases h1
      have hp : pc < tm_n k := by
        rcases Nat.lt_or_ge pc (tm_n k) with q | q
        · exact q
        · rw [Nat.ble_eq_true_of_le q] at h2; cases h2
      have h3 := tm_all hk
      refine ⟨hk, h3, ?_⟩
      unfold tm_okm at h3
      simp only [Bool.and_eq_true] at h3
      have h4 := List.all_eq_true.mp h3.2 pc (List.mem_range.mpr hp)
      have h5 : tm_g k pc = some x := h
      rw [h5] at h4
      exact h4
