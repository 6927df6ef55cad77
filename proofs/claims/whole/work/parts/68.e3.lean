/-! ===== what is kept: class and model ===== -/
def hsm (I I' : Nat → Nat → Int32) : Prop := (I' 56 2 = I 56 2 ∧ I' 56 3 = I 56 3) ∧ (∀ c, 4 ≤ c → c ≤ 20 → I' c = I c) ∧ (∀ c, 58 ≤ c → c ≤ 65 → I' c = I c)
theorem hsm_refl (I : Nat → Nat → Int32) : hsm I I := ⟨⟨rfl, rfl⟩, fun _ _ _ => rfl, fun _ _ _ => rfl⟩
theorem hsm_trans {I I' I'' : Nat → Nat → Int32} (a : hsm I I') (b : hsm I' I'') : hsm I I'' :=
  ⟨⟨b.1.1.trans a.1.1, b.1.2.trans a.1.2⟩, fun c h1 h2 => (b.2.1 c h1 h2).trans (a.2.1 c h1 h2), fun c h1 h2 => (b.2.2 c h1 h2).trans (a.2.2 c h1 h2)⟩
theorem rst_agr {I I' : Nat → Nat → Int32} {c c' : Nat} {f f' : Nat → Int32} (a : hsm I I') (h1 : ∀ k, 2 ≤ k → k < 9 → I' c' k = I c k) (h2 : ∀ t, t < 16 → I' (c' + 1) t = I (c + 1) t ∧ I' (c' + 2) t = I (c + 2) t) (h3 : ∀ q, q < 52 → f' q = f q) : agr (rst I c f) (rst I' c' f') := by
  refine ⟨⟨?_, ?_⟩, fun k g1 g2 => ?_, fun k g1 g2 => ?_, fun q hq => ?_, fun k g1 g2 => ?_, fun t ht => ⟨?_, ?_⟩⟩
  · rw [rst_x (by decide), rst_x (by decide)]; exact a.1.1
  · rw [rst_x (by decide), rst_x (by decide)]; exact a.1.2
  · rw [rst_x (by omega), rst_x (by omega)]; exact a.2.1 k g1 g2
  · rw [rst_x (by omega), rst_x (by omega)]; exact a.2.2 k g1 g2
  · exact h3 q hq
  · exact h1 k g1 g2
  · exact (h2 t ht).1
  · exact (h2 t ht).2
theorem rst_cur (I : Nat → Nat → Int32) : agr I (rst I 21 (I 57)) := by
  refine ⟨⟨?_, ?_⟩, fun k g1 g2 => ?_, fun k g1 g2 => ?_, fun q hq => rfl, fun k g1 g2 => rfl, fun t ht => ⟨rfl, rfl⟩⟩
  · rw [rst_x (by decide)]
  · rw [rst_x (by decide)]
  · rw [rst_x (by omega)]
  · rw [rst_x (by omega)]
def slt (nx u j : Nat) : Nat := 27 + 3 * ((nx + 7 - (u - j)) % 8)
def RNG (I : Nat → Nat → Int32) (h nr nt u nx : Nat) : Prop := u ≤ 8 ∧ nx < 8 ∧ (I 25 1 = nI nx ∧ I 25 2 = nI u ∧ I 56 1 = nI u) ∧ ∀ j, 1 ≤ j → j ≤ u → ∃ y pl, RW (rst I (slt nx u j) (fun q => I 57 (52 * j + q))) h nr nt y pl
section E3
variable {I I' I1 : Nat → Nat → Int32} {h nr nt y u nx : Nat} {pl : Nat → Nat}
theorem RNG_same (hh : h = 4 ∨ h = 13) (a : hsm I I') (h25 : I' 25 1 = I 25 1 ∧ I' 25 2 = I 25 2) (h56 : I' 56 1 = I 56 1) (hr : ∀ c, 27 ≤ c → c ≤ 50 → I' c = I c) (h57 : ∀ q, 52 ≤ q → q < 468 → I' 57 q = I 57 q) (hG : RNG I h nr nt u nx) : RNG I' h nr nt u nx := by
  obtain ⟨hu, hx, ⟨g1, g2, g3⟩, g⟩ := hG
  refine ⟨hu, hx, ⟨h25.1.trans g1, h25.2.trans g2, h56.trans g3⟩, fun j j1 j2 => ?_⟩
  obtain ⟨y', pl', q⟩ := g j j1 j2
  have hs : (nx + 7 - (u - j)) % 8 < 8 := Nat.mod_lt _ (by decide)
  refine ⟨y', pl', RW_agr hh (rst_agr a ?_ ?_ ?_) q⟩
  · intro k _ _
    unfold slt
    rw [hr _ (by omega) (by omega)]
  · intro t _
    unfold slt
    rw [hr _ (by omega) (by omega), hr _ (by omega) (by omega)]
    exact ⟨rfl, rfl⟩
  · intro k hk
    exact h57 _ (by omega) (by omega)
theorem RNG_keep (hh : h = 4 ∨ h = 13) (hW : RW I h nr nt y pl) (hG : RNG I h nr nt u nx) (hk : kpd I I1 nx u) (a : hsm I I') (hr : ∀ c, 25 ≤ c → c ≤ 50 → I' c = I1 c) (h56 : I' 56 1 = nI (mnext u)) (h57 : ∀ q, 52 ≤ q → q < 468 → I' 57 q = mmind (I 57) u q) : RNG I' h nr nt (mnext u) ((nx + 1) % 8) := by
  obtain ⟨hu, hx, ⟨g1, g2, g3⟩, g⟩ := hG
  have hm : mnext u ≤ 8 := by unfold mnext; split <;> omega
  have hcur : RW (rst I' (27 + 3 * nx) (I 57)) h nr nt y pl := by
    refine RW_agr hh (agr_trans (rst_cur I) (rst_agr a ?_ ?_ (fun _ _ => rfl))) hW
    · intro k k1 k2
      rw [hr _ (by omega) (by omega)]
      exact hk.2.2.1 k k1 k2
    · intro t ht
      rw [hr _ (by omega) (by omega), hr _ (by omega) (by omega)]
      have := hk.2.2.2 t ht
      rw [show 27 + 3 * nx + 1 = 28 + 3 * nx by omega, show 27 + 3 * nx + 2 = 29 + 3 * nx by omega]
      exact this
  refine ⟨hm, Nat.mod_lt _ (by decide), ⟨by rw [hr 25 (by decide) (by decide)]; exact hk.2.1.1, by rw [hr 25 (by decide) (by decide)]; exact hk.2.1.2, h56⟩, fun j j1 j2 => ?_⟩
  by_cases c : u = 8
  · subst c
    have e8 : mnext 8 = 8 := rfl
    rw [e8] at j2 ⊢
    by_cases cj : j = 8
    · subst cj
      have es : slt ((nx + 1) % 8) 8 8 = 27 + 3 * nx := by unfold slt; omega
      rw [es]
      refine ⟨y, pl, RW_agr hh (rst_agr (hsm_refl I') (fun _ _ _ => rfl) (fun _ _ => ⟨rfl, rfl⟩) (fun q hq => ?_)) hcur⟩
      rw [h57 _ (by omega) (by omega), mmind, if_pos rfl, cpy, if_pos (by omega), show 52 * 8 + q - 416 + 0 = q by omega, sft, if_neg (by omega)]
    · obtain ⟨y', pl', q⟩ := g (j + 1) (by omega) (by omega)
      have es : slt ((nx + 1) % 8) 8 j = slt nx 8 (j + 1) := by unfold slt; omega
      have hs1 : 27 ≤ slt nx 8 (j + 1) ∧ slt nx 8 (j + 1) ≤ 48 ∧ slt nx 8 (j + 1) ≠ 27 + 3 * nx ∧ slt nx 8 (j + 1) ≠ 28 + 3 * nx ∧ slt nx 8 (j + 1) ≠ 29 + 3 * nx ∧ slt nx 8 (j + 1) + 1 ≠ 27 + 3 * nx ∧ slt nx 8 (j + 1) + 1 ≠ 28 + 3 * nx ∧ slt nx 8 (j + 1) + 1 ≠ 29 + 3 * nx ∧ slt nx 8 (j + 1) + 2 ≠ 27 + 3 * nx ∧ slt nx 8 (j + 1) + 2 ≠ 28 + 3 * nx ∧ slt nx 8 (j + 1) + 2 ≠ 29 + 3 * nx := by unfold slt; omega
      rw [es]
      refine ⟨y', pl', RW_agr hh (rst_agr a (fun k _ _ => ?_) (fun t _ => ?_) (fun k hk2 => ?_)) q⟩
      · rw [hr _ (by omega) (by omega), hk.1 _ (by omega) (by omega) (by omega) (by omega)]
      · rw [hr _ (by omega) (by omega), hk.1 _ (by omega) (by omega) (by omega) (by omega), hr _ (by omega) (by omega), hk.1 _ (by omega) (by omega) (by omega) (by omega)]
        exact ⟨rfl, rfl⟩
      · rw [h57 _ (by omega) (by omega), mmind, if_pos rfl, cpy, if_neg (by omega), sft, if_pos (by omega)]
        congr 1
        omega
  · have e8 : mnext u = u + 1 := if_neg c
    rw [e8] at j2 ⊢
    by_cases cj : j = u + 1
    · subst cj
      have es : slt ((nx + 1) % 8) (u + 1) (u + 1) = 27 + 3 * nx := by unfold slt; omega
      rw [es]
      refine ⟨y, pl, RW_agr hh (rst_agr (hsm_refl I') (fun _ _ _ => rfl) (fun _ _ => ⟨rfl, rfl⟩) (fun q hq => ?_)) hcur⟩
      rw [h57 _ (by omega) (by omega), mmind, if_neg c, cpy, if_pos (by omega), show 52 * (u + 1) + q - 52 * (u + 1) + 0 = q by omega]
    · obtain ⟨y', pl', q⟩ := g j (by omega) (by omega)
      have es : slt ((nx + 1) % 8) (u + 1) j = slt nx u j := by unfold slt; omega
      have hs1 : 27 ≤ slt nx u j ∧ slt nx u j ≤ 48 ∧ slt nx u j ≠ 27 + 3 * nx ∧ slt nx u j ≠ 28 + 3 * nx ∧ slt nx u j ≠ 29 + 3 * nx ∧ slt nx u j + 1 ≠ 27 + 3 * nx ∧ slt nx u j + 1 ≠ 28 + 3 * nx ∧ slt nx u j + 1 ≠ 29 + 3 * nx ∧ slt nx u j + 2 ≠ 27 + 3 * nx ∧ slt nx u j + 2 ≠ 28 + 3 * nx ∧ slt nx u j + 2 ≠ 29 + 3 * nx := by unfold slt; omega
      rw [es]
      refine ⟨y', pl', RW_agr hh (rst_agr a (fun k _ _ => ?_) (fun t _ => ?_) (fun k hk2 => ?_)) q⟩
      · rw [hr _ (by omega) (by omega), hk.1 _ (by omega) (by omega) (by omega) (by omega)]
      · rw [hr _ (by omega) (by omega), hk.1 _ (by omega) (by omega) (by omega) (by omega), hr _ (by omega) (by omega), hk.1 _ (by omega) (by omega) (by omega) (by omega)]
        exact ⟨rfl, rfl⟩
      · rw [h57 _ (by omega) (by omega), mmind, if_neg c, cpy, if_neg (by omega)]
theorem RNG_undo (hh : h = 4 ∨ h = 13) (hG : RNG I h nr nt (u + 1) nx) (ht : tkd I I1 nx u) (a : hsm I I') (hr : ∀ c, 21 ≤ c → c ≤ 50 → I' c = I1 c) (h56 : I' 56 1 = nI u) (h57 : ∀ q, q < 468 → I' 57 q = if q < 52 then I 57 (52 * (u + 1) + q) else I 57 q) : RNG I' h nr nt u ((nx + 7) % 8) ∧ ∃ y pl, RW I' h nr nt y pl := by
  obtain ⟨hu, hx, ⟨g1, g2, g3⟩, g⟩ := hG
  refine ⟨⟨by omega, Nat.mod_lt _ (by decide), ⟨by rw [hr 25 (by decide) (by decide)]; exact ht.2.1.1, by rw [hr 25 (by decide) (by decide)]; exact ht.2.1.2, h56⟩, fun j j1 j2 => ?_⟩, ?_⟩
  · obtain ⟨y', pl', q⟩ := g j (by omega) (by omega)
    have es : slt ((nx + 7) % 8) u j = slt nx (u + 1) j := by unfold slt; omega
    have hs1 : 27 ≤ slt nx (u + 1) j ∧ slt nx (u + 1) j ≤ 48 := by unfold slt; omega
    rw [es]
    refine ⟨y', pl', RW_agr hh (rst_agr a (fun k _ _ => ?_) (fun t _ => ?_) (fun k hk2 => ?_)) q⟩
    · rw [hr _ (by omega) (by omega), ht.1 _ (by omega) (by omega) (by omega) (by omega)]
    · rw [hr _ (by omega) (by omega), ht.1 _ (by omega) (by omega) (by omega) (by omega), hr _ (by omega) (by omega), ht.1 _ (by omega) (by omega) (by omega) (by omega)]
      exact ⟨rfl, rfl⟩
    · rw [h57 _ (by omega), if_neg (by omega)]
  · obtain ⟨y', pl', q⟩ := g (u + 1) (by omega) (by omega)
    have es : slt nx (u + 1) (u + 1) = 27 + 3 * ((nx + 7) % 8) := by unfold slt; omega
    rw [es] at q
    refine ⟨y', pl', RW_agr hh ?_ q⟩
    refine ⟨⟨?_, ?_⟩, fun k k1 k2 => ?_, fun k k1 k2 => ?_, fun k hk => ?_, fun k k1 k2 => ?_, fun t ht2 => ⟨?_, ?_⟩⟩
    · rw [rst_x (by decide)]; exact a.1.1
    · rw [rst_x (by decide)]; exact a.1.2
    · rw [rst_x (by omega)]; exact a.2.1 k k1 k2
    · rw [rst_x (by omega)]; exact a.2.2 k k1 k2
    · rw [h57 _ (by omega), if_pos hk]
      rfl
    · rw [hr 21 (by decide) (by decide)]
      exact ht.2.2.1 k k1 k2
    · rw [hr 22 (by decide) (by decide), (ht.2.2.2 t ht2).1, show 28 + 3 * ((nx + 7) % 8) = 27 + 3 * ((nx + 7) % 8) + 1 by omega]
      rfl
    · rw [hr 23 (by decide) (by decide), (ht.2.2.2 t ht2).2, show 29 + 3 * ((nx + 7) % 8) = 27 + 3 * ((nx + 7) % 8) + 2 by omega]
      rfl
end E3
