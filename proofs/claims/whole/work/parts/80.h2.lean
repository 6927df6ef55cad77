/-! ===== class and model: settled ===== -/
/-- the doubt in both -/
def DB (I : Nat → Nat → Int32) (nt a k : Nat) : Prop := (k ≤ 2 ∧ a < 12) ∧ (I 55 0 = nI k ∧ I 56 35 = nI k ∧ I 56 36 = nI a) ∧ (0 < k → (I 55 1 = nI a ∧ I 55 2 = (if of2 a = true then 2 else 1) ∧ I 55 3 = I 82 0 ∧ (of2 a = true → I 55 4 = I 82 1) ∧ (of2 a = false → I 55 4 = 1)) ∧ inN nt (I 82 0) ∧ (of2 a = true → inN nt (I 82 1)) ∧ (k = 2 → of2 a = true))
def INVw (I : Nat → Nat → Int32) (h nr nt : Nat) : Prop := ∃ y pl u nx a k, RW I h nr nt y pl ∧ RNG I h nr nt u nx ∧ DB I nt a k
theorem mwhy_cong {I I' : Nat → Nat → Int32} (h57 : I' 57 = I 57) (h61 : I' 61 = I 61) (h62 : I' 62 = I 62) (h63 : I' 63 = I 63) (pl : Nat → Nat) (nt a x y : Nat) : mwhy I' pl nt a x y = mwhy I pl nt a x y := by
  unfold mwhy mtake mput mlock mcl mtr mst mtat mtot
  rw [h57, h61, h62, h63]
theorem inN_so {nt : Nat} {p : Nat → Bool} (h16 : nt ≤ 16) (h : anyb p nt = true) : inN nt (so p nt) := by
  refine ⟨fun t h1 h2 => ?_, ?_⟩
  · rw [so_bt _ (by omega) t h2, decide_eq_false (by omega), Bool.false_and]
  · obtain ⟨x, h1, h2⟩ := anyb_iff.mp h
    exact anyb_iff.mpr ⟨x, h1, by rw [so_bt _ (by omega) x (by omega), h2, decide_eq_true h1]; rfl⟩
theorem ct_pos {p : Nat → Bool} {n : Nat} (h : 0 < ct p n) : anyb p n = true := by
  cases q : anyb p n with
  | true => rfl
  | false =>
    rw [ct_0.mpr q] at h
    omega
theorem ct_one {p : Nat → Bool} {x : Nat} (h : ∀ y, p y = true → y = x) : ∀ n, ct p n ≤ 1 := by
  intro n
  rcases Nat.eq_zero_or_pos (ct p n) with q | q
  · omega
  · obtain ⟨k, h1, h2⟩ := anyb_iff.mp (ct_pos q)
    have e := ct_less h2 h1
    have : ct (fun i => p i && !(i == k)) n = 0 := by
      rw [ct_0]
      cases g : anyb (fun i => p i && !(i == k)) n with
      | false => rfl
      | true =>
        obtain ⟨j, j1, j2⟩ := anyb_iff.mp g
        simp only [Bool.and_eq_true, Bool.not_eq_true', beq_eq_false_iff_ne, ne_eq] at j2
        exact absurd ((h j j2.1).trans (h k h2).symm) j2.2
    omega
section H2
variable {E : tm_Env} {Q : Option Int32 → tm_St → Prop} {I : Nat → Nat → Int32} {J : Nat → Nat → Int64} {R : Nat → Nat → Option Nat} {h d : Nat} {nr nt y u nx : Nat} {pl : Nat → Nat}
theorem pf_cong {I I' : Nat → Nat → Int32} (e21 : I' 21 = I 21) (e22 : I' 22 = I 22) (a x z : Nat) (v : Int32) : pfP I' a x z = pfP I a x z ∧ pfT I' a x v = pfT I a x v := by
  unfold pfP pfT
  rw [e21, e22]
  exact ⟨rfl, rfl⟩
theorem settle_ok (hR : tRef h d R) (hW : RW I h nr nt y pl) (hG : RNG I h nr nt u nx) {a : Nat} {f0 f1 s1 : Int32} (ha : a < 12) (h1 : I 55 1 = nI a) (h2 : I 55 2 = if of2 a = true then 2 else 1) (h3 : I 55 3 = f0) (h4 : I 55 4 = s1) (hf : inN nt f0) (hf1 : of2 a = true → inN nt f1) (hs2 : of2 a = true → s1 = f1) (hs1 : of2 a = false → s1 = 1) :
    ∃ v I1, (∀ c, 51 ≤ c → c ≠ 55 → I1 c = I c) ∧ (∀ c, c < 4 → I1 c = I c) ∧ (∀ Q, tEv E 119 0 [.ref 0, tm_dum, tm_dum, tm_dum, tm_dum] [] (mS I J R) Q = Q (some v) (mS I1 J R)) ∧
    ∀ Im, frI I I1 Im → Im 56 36 = nI a → Im 82 0 = f0 → (of2 a = true → Im 82 1 = f1) → ∃ I', (∀ Q, tEv E 176 0 [.ref 56, tm_dum, tm_dum, tm_dum] [] (mS Im J R) Q = Q (some v) (mS I' J R)) ∧ INVw I' h nr nt ∧ (∀ c, c < 4 → I' c = Im c) ∧ I' 66 = Im 66 ∧ I' 56 13 = Im 56 13 := by
  have hh : h = 4 ∨ h = 13 := by rcases hR.2.2.1 with q | q <;> omega
  have h16 := RR_16 hW.1
  have hx8 := hG.2.1
  have hu8 := hG.1
  -- what the model sees
  have mod : ∀ {I1 Im : Nat → Nat → Int32}, frI I I1 Im → Im 82 0 = f0 → (of2 a = true → Im 82 1 = f1) → mW Im nr nt pl ∧ mC Im pl nt a = gC I pl nt a f0 f1 ∧ mparb Im pl nt a = gpar I pl nt a f1 ∧ ∀ x z, mwhy Im pl nt a x z = mwhy I pl nt a x z := fun {I1} {Im} fm m0 m1 => by
    have hm : ∀ x z, mwhy Im pl nt a x z = mwhy I pl nt a x z := fun x z => mwhy_cong (fm.2.1 57 (by decide) (by decide)) (fm.2.1 61 (by decide) (by decide)) (fm.2.1 62 (by decide) (by decide)) (fm.2.1 63 (by decide) (by decide)) pl nt a x z
    have hp : mparb Im pl nt a = gpar I pl nt a f1 := by
      funext x z
      unfold mparb gpar
      rw [hm x z]
      cases c : of2 a with
      | true => rw [if_pos rfl, if_pos rfl, m1 c]
      | false => rfl
    refine ⟨mW_cong hW.1.1 fm.2.2.2.1 fm.2.2.2.2.1 (fun t _ => by rw [fm.2.1 57 (by decide) (by decide)]), ?_, hp, hm⟩
    funext x
    unfold mC gC
    rw [m0, hp]
  -- nothing but doubt's cell has changed
  have same : ∀ {I1 Im I' : Nat → Nat → Int32} {k : Nat}, (∀ c, c ≠ 55 → I1 c = I c) → frI I I1 Im → (∀ c, c ≠ 56 → c ≠ 82 → I' c = Im c) → (∀ k, k ≠ 35 → I' 56 k = Im 56 k) → DB I' nt a k → INVw I' h nr nt ∧ (∀ c, c < 4 → I' c = Im c) ∧ I' 66 = Im 66 ∧ I' 56 13 = Im 56 13 := fun {I1} {Im} {I'} {k} e1 fm g1 g2 hd => by
    have lo : ∀ c, c < 55 → I' c = I c := fun c hc => by rw [g1 c (by omega) (by omega), fm.1 c (by omega), e1 c (by omega)]
    have hi : ∀ c, 57 ≤ c → c ≤ 77 → I' c = I c := fun c c1 c2 => by rw [g1 c (by omega) (by omega), fm.2.1 c c1 c2]
    have ag : agr I I' := ⟨⟨(g2 2 (by decide)).trans fm.2.2.2.1, (g2 3 (by decide)).trans fm.2.2.2.2.1⟩, fun c _ _ => lo c (by omega), fun c _ _ => hi c (by omega) (by omega), fun q _ => by rw [hi 57 (by decide) (by decide)], fun k _ _ => by rw [lo 21 (by decide)], fun t _ => by rw [lo 22 (by decide), lo 23 (by decide)]; exact ⟨rfl, rfl⟩⟩
    refine ⟨⟨y, pl, u, nx, a, k, RW_agr hh ag hW, RNG_same hh ⟨ag.1, ag.2.1, ag.2.2.1⟩ ⟨by rw [lo 25 (by decide)], by rw [lo 25 (by decide)]⟩ ((g2 1 (by decide)).trans fm.2.2.1) (fun c _ _ => lo c (by omega)) (fun q _ _ => by rw [hi 57 (by decide) (by decide)]) hG, hd⟩, fun c hc => g1 c (by omega) (by omega), g1 66 (by decide) (by decide), g2 13 (by decide)⟩
  have up55 : ∀ F, ∀ c, c ≠ 55 → va_up I 55 F c = I c := fun F c hc => by rw [vu, if_neg hc]
  by_cases c0 : ct (gC I pl nt a f0 f1) nt = 0
  · have hno := ct_0.mp c0
    refine ⟨_, va_up I 55 (upd (I 55) 0 0), fun c _ hc => up55 _ c hc, fun c hc => up55 _ c (by omega), fun Q => c_settle_0 hR hW ha h1 h3 h4 hf hf1 hs2 hs1 hno, fun Im fm hA m0 m1 => ?_⟩
    obtain ⟨mw, e1, e2, e3⟩ := mod fm m0 m1
    obtain ⟨fa, fl⟩ := inN_16 h16 hf
    have hv : mwhy I pl nt a (low (bt f0) 16) (low (bt f1) 16) = mwhy Im pl nt a (low (bt (Im 82 0)) 16) (low (bt (Im 82 1)) 16) := by
      rw [e3, m0]
      cases c : of2 a with
      | true => rw [m1 c]
      | false => exact mwhy_1 I pl ha c _ _
    refine ⟨va_up Im 56 (upd (Im 56) 35 0), fun Q => ?_, ?_⟩
    · rw [hv]
      exact m_resolves_0 hR mw ha hA (by rw [e1]; exact hno) (by rw [m0]; exact fa) (by rw [m0]; exact fl) (fun c => by rw [m1 c]; exact inN_16 h16 (hf1 c))
    · refine same (k := 0) (fun c hc => up55 _ c hc) fm (fun c c1 _ => by rw [vu, if_neg c1]) (fun k hk => by rw [vu_eq, ud, if_neg hk]) ⟨⟨by decide, ha⟩, ⟨?_, ?_, ?_⟩, fun e => absurd e (by decide)⟩
      · rw [vu, if_neg (by decide), fm.1 55 (by decide)]
        rfl
      · rw [vu_eq, ud, if_pos rfl]
        rfl
      · rw [vu_eq, ud, if_neg (by decide)]
        exact hA
  · by_cases c1 : 1 < ct (gC I pl nt a f0 f1) nt
    · refine ⟨4, va_up I 55 (upd (upd (I 55) 3 (so (gC I pl nt a f0 f1) nt)) 0 1), fun c _ hc => up55 _ c hc, fun c hc => up55 _ c (by omega), fun Q => c_settle_1 hR hW ha h1 h3 h4 hf hs2 hs1 c1, fun Im fm hA m0 m1 => ?_⟩
      obtain ⟨mw, e1, e2, e3⟩ := mod fm m0 m1
      have hm := fun {Q} => m_resolves_1 (E := E) (Q := Q) (J := J) hR mw ha hA (by rw [e1]; exact c1)
      rw [e1] at hm
      refine ⟨_, fun Q => hm, ?_⟩
      refine same (k := 1) (fun c hc => up55 _ c hc) fm (fun c g1 g2 => by rw [vu, if_neg g2, vu, if_neg g1]) (fun k hk => by rw [vu, if_neg (by decide), vu_eq, ud, if_neg hk]) ⟨⟨by decide, ha⟩, ⟨?_, ?_, ?_⟩, fun _ => ⟨⟨?_, ?_, ?_, fun c => ?_, fun c => ?_⟩, ?_, fun c => ?_, fun e => absurd e (by decide)⟩⟩
      · rw [vu, if_neg (by decide), vu, if_neg (by decide), fm.1 55 (by decide)]
        rfl
      · rw [vu, if_neg (by decide), vu_eq, ud, if_pos rfl]
        rfl
      · rw [vu, if_neg (by decide), vu_eq, ud, if_neg (by decide)]
        exact hA
      · rw [vu, if_neg (by decide), vu, if_neg (by decide), fm.1 55 (by decide)]
        exact h1
      · rw [vu, if_neg (by decide), vu, if_neg (by decide), fm.1 55 (by decide)]
        exact h2
      · rw [vu, if_neg (by decide), vu, if_neg (by decide), fm.1 55 (by decide)]
        rfl
      · rw [vu, if_neg (by decide), vu, if_neg (by decide), fm.1 55 (by decide)]
        show I 55 4 = Im 82 1
        rw [m1 c]
        exact h4.trans (hs2 c)
      · rw [vu, if_neg (by decide), vu, if_neg (by decide), fm.1 55 (by decide)]
        exact h4.trans (hs1 c)
      · rw [vu_eq, ud, if_pos rfl]
        exact inN_so h16 (ct_pos (by omega))
      · rw [vu_eq, ud, if_neg (by decide), m1 c]
        exact hf1 c
    · have c2 : ct (gC I pl nt a f0 f1) nt = 1 := by omega
      obtain ⟨u1, u2, u3⟩ := ct_uniq c2
      have hany : anyb (gpar I pl nt a f1 (low (gC I pl nt a f0 f1) nt)) nt = true := by
        have g := u2
        unfold gC at g
        rw [Bool.and_eq_true] at g
        exact g.2
      have hpos : 0 < ct (gpar I pl nt a f1 (low (gC I pl nt a f0 f1) nt)) nt := by
        rcases Nat.eq_zero_or_pos (ct (gpar I pl nt a f1 (low (gC I pl nt a f0 f1) nt)) nt) with q | q
        · rw [ct_0.mp q] at hany
          cases hany
        · exact q
      by_cases c3 : 1 < ct (gpar I pl nt a f1 (low (gC I pl nt a f0 f1) nt)) nt
      · have o2 : of2 a = true := by
          cases c : of2 a with
          | true => rfl
          | false =>
            exfalso
            have := ct_one (p := gpar I pl nt a f1 (low (gC I pl nt a f0 f1) nt)) (x := low (gC I pl nt a f0 f1) nt) (fun z hz => by
              unfold gpar at hz
              rw [c, if_neg (by decide), Bool.and_eq_true, beq_iff_eq] at hz
              exact hz.1) nt
            omega
        refine ⟨4, va_up I 55 (upd (upd (I 55) 4 (so (gpar I pl nt a f1 (low (gC I pl nt a f0 f1) nt)) nt)) 0 2), fun c _ hc => up55 _ c hc, fun c hc => up55 _ c (by omega), fun Q => c_settle_2 hR hW ha h1 h3 h4 hf o2 (hs2 o2) c2 c3, fun Im fm hA m0 m1 => ?_⟩
        obtain ⟨mw, e1, e2, e3⟩ := mod fm m0 m1
        have hm := fun {Q} => m_resolves_2 (E := E) (Q := Q) (J := J) hR mw ha hA (by rw [e1]; exact c2) (by rw [e1, e2]; exact c3)
        rw [e1, e2] at hm
        refine ⟨_, fun Q => hm, ?_⟩
        refine same (k := 2) (fun c hc => up55 _ c hc) fm (fun c g1 g2 => by rw [vu, if_neg g2, vu, if_neg g1]) (fun k hk => by rw [vu, if_neg (by decide), vu_eq, ud, if_neg hk]) ⟨⟨by decide, ha⟩, ⟨?_, ?_, ?_⟩, fun _ => ⟨⟨?_, ?_, ?_, fun c => ?_, fun c => ?_⟩, ?_, fun c => ?_, fun _ => o2⟩⟩
        · rw [vu, if_neg (by decide), vu, if_neg (by decide), fm.1 55 (by decide)]
          rfl
        · rw [vu, if_neg (by decide), vu_eq, ud, if_pos rfl]
          rfl
        · rw [vu, if_neg (by decide), vu_eq, ud, if_neg (by decide)]
          exact hA
        · rw [vu, if_neg (by decide), vu, if_neg (by decide), fm.1 55 (by decide)]
          exact h1
        · rw [vu, if_neg (by decide), vu, if_neg (by decide), fm.1 55 (by decide)]
          exact h2
        · rw [vu, if_neg (by decide), vu, if_neg (by decide), fm.1 55 (by decide)]
          show I 55 3 = Im 82 0
          rw [m0]
          exact h3
        · rw [vu, if_neg (by decide), vu, if_neg (by decide), fm.1 55 (by decide)]
          rfl
        · rw [o2] at c
          cases c
        · rw [vu_eq, ud, if_neg (by decide), m0]
          exact hf
        · rw [vu_eq, ud, if_pos rfl]
          exact inN_so h16 hany
      · have c4 : ct (gpar I pl nt a f1 (low (gC I pl nt a f0 f1) nt)) nt = 1 := by omega
        obtain ⟨v1, v2, -⟩ := ct_uniq c4
        obtain ⟨I1, I3, k1, t1, hq⟩ := c_settle_3 (E := E) (J := J) hR hW hx8 hu8 hG.2.2.1.1 hG.2.2.1.2.1 ha h1 h3 h4 hf hs2 hs1 c2 c4
        generalize hxx : low (gC I pl nt a f0 f1) nt = x at *
        generalize hzz : low (gpar I pl nt a f1 x) nt = z at *
        have hw0 : mwhy I pl nt a x z = 0 := by
          unfold gpar at v2
          rw [Bool.and_eq_true, decide_eq_true_eq] at v2
          exact v2.2
        have e3c : ∀ c, c ≠ 21 → c ≠ 22 → c ≠ 23 → I3 c = I1 c := fun c g1 g2 g3 => by
          rw [t1.1 c g1 g3]
          unfold pfd
          rw [vu, if_neg g1, vu, if_neg g2]
        have e1c : ∀ c, c ≠ 25 → c ≠ 27 + 3 * nx → c ≠ 28 + 3 * nx → c ≠ 29 + 3 * nx → c ≠ 55 → I1 c = I c := fun c g1 g2 g3 g4 g5 => by rw [k1.1 c g1 g2 g3 g4, up55 _ c g5]
        refine ⟨0, I3, fun c g1 g2 => ?_, fun c g1 => ?_, hq, fun Im fm hA m0 m1 => ?_⟩
        · rw [e3c c (by omega) (by omega) (by omega), e1c c (by omega) (by omega) (by omega) (by omega) g2]
        · rw [e3c c (by omega) (by omega) (by omega), e1c c (by omega) (by omega) (by omega) (by omega) (by omega)]
        · obtain ⟨mw, e1, e2, e3⟩ := mod fm m0 m1
          have hm := fun {Q} => m_resolves_3 (E := E) (Q := Q) (J := J) hR mw hu8 (fm.2.2.1.trans hG.2.2.1.2.2) ha hA (by rw [e1]; exact c2) (by rw [e1, e2, hxx]; exact c4)
          rw [e1, e2, hxx, hzz] at hm
          refine ⟨_, fun Q => hm, ?_⟩
          have hag : agr I (va_up I 55 (upd (I 55) 0 0)) := ⟨⟨rfl, rfl⟩, fun c _ _ => up55 _ c (by omega), fun c _ _ => up55 _ c (by omega), fun _ _ => rfl, fun _ _ _ => rfl, fun _ _ => ⟨rfl, rfl⟩⟩
          have hW0 : RW (va_up I 55 (upd (I 55) 0 0)) h nr nt y pl := RW_agr hh hag hW
          have hG0 : RNG (va_up I 55 (upd (I 55) 0 0)) h nr nt u nx := RNG_same hh ⟨hag.1, hag.2.1, hag.2.2.1⟩ ⟨rfl, rfl⟩ rfl (fun c _ _ => up55 _ c (by omega)) (fun _ _ _ => rfl) hG
          have fm0 : frI (va_up I 55 (upd (I 55) 0 0)) I3 Im := ⟨fm.1, fun c g1 g2 => by rw [up55 _ c (by omega)]; exact fm.2.1 c g1 g2, fm.2.2⟩
          have m57 : Im 57 = I 57 := fm.2.1 57 (by decide) (by decide)
          have e21 : I1 21 = I 21 := e1c 21 (by decide) (by omega) (by omega) (by omega) (by decide)
          have e22 : I1 22 = I 22 := e1c 22 (by decide) (by omega) (by omega) (by omega) (by decide)
          obtain ⟨pc1, pc2⟩ := pf_cong e21 e22 a x z (nI (ct (fun t => pl t == 10 + x) nt))
          have hgl : ∀ q, q < 52 → upd (mdoes (mmind (Im 57) u) pl nt a x z) 50 (nI x) q = upd (mdoes (I 57) pl nt a x z) 50 (nI x) q := fun q hq => by
            rw [ud, ud, mdoes_cong (show x < 16 by omega) (fun q hq => by rw [mmind_lo _ hq, m57]) q hq]
          have hgh : ∀ q, 52 ≤ q → q < 468 → upd (mdoes (mmind (Im 57) u) pl nt a x z) 50 (nI x) q = mmind (I 57) u q := fun q q1 _ => by
            rw [ud, if_neg (by omega), mdoes_hi (show x < 16 by omega) q1, m57]
          obtain ⟨y', pl', hA'⟩ := RW_act (I' := va_up (va_up (va_up (va_up I 55 (upd (I 55) 0 0)) 22 (pfd I1 a x z (nI (ct (fun t => pl t == 10 + x) nt)) 22)) 21 (pfd I1 a x z (nI (ct (fun t => pl t == 10 + x) nt)) 21)) 57 (upd (mdoes (mmind (Im 57) u) pl nt a x z) 50 (nI x))) hh hW ha u1 (fun c => by have := v1; exact this) hw0
            ⟨⟨rfl, rfl⟩, fun c c1 c2 => by rw [vu, if_neg (by omega), vu, if_neg (by omega), vu, if_neg (by omega), up55 _ c (by omega)], fun c c1 c2 => by rw [vu, if_neg (by omega), vu, if_neg (by omega), vu, if_neg (by omega), up55 _ c (by omega)]⟩
            (fun t ht => by rw [vu, if_neg (by decide), vu, if_neg (by decide), vu_eq]; unfold pfd; rw [vu, if_neg (by decide), vu_eq, pc1])
            (fun k k1 k2 => by rw [vu, if_neg (by decide), vu_eq]; unfold pfd; rw [vu_eq, pc2])
            (fun t ht => rfl) hgl
          obtain ⟨r1, r2⟩ := done_ok hh hW0 hG0 k1 (B := pfd I1 a x z (nI (ct (fun t => pl t == 10 + x) nt))) (fun c g1 g2 => by unfold pfd; rw [vu, if_neg g1, vu, if_neg g2]) t1 fm0 hgh hA'
          refine ⟨⟨y', pl', _, _, a, 0, r1, r2, ⟨by decide, ha⟩, ⟨?_, ?_, ?_⟩, fun e => absurd e (by decide)⟩, fun c hc => mfin_x (by omega) (by omega), mfin_x (by decide) (by decide), mfin_56 (by decide) (by decide)⟩
          · rw [mfin_x (by decide) (by decide), fm.1 55 (by decide), e3c 55 (by decide) (by decide) (by decide), k1.1 55 (by decide) (by omega) (by omega) (by omega)]
            rfl
          · unfold mfin
            rw [vu, if_neg (by decide), vu_eq, ud, if_pos rfl]
            rfl
          · rw [mfin_56 (by decide) (by decide)]
            exact hA
end H2
