theorem pr_sheet {σ ρ u v : Nat → Nat → Int} {nn : Nat} {sa la na z z' : Int} (h : INV σ ρ nn) (hc : (¬ (((0 ≤ sa ∧ sa ≤ 3) ∧ (0 ≤ la ∧ la ≤ 2)) ∧ na ≤ 28) ∧ z = -1 ∧ u = σ) ∨ ((((0 ≤ sa ∧ sa ≤ 3) ∧ (0 ≤ la ∧ la ≤ 2)) ∧ na ≤ 28) ∧ ((na < 0 ∧ z = -14 ∧ u = σ) ∨ (0 ≤ na ∧ z = na ∧ u = hdS σ (15 + sa.toNat) la na)))) (hm : (¬ (((0 ≤ sa ∧ sa ≤ 3) ∧ (0 ≤ la ∧ la ≤ 2)) ∧ na ≤ 28) ∧ z' = -1 ∧ v = ρ) ∨ ((((0 ≤ sa ∧ sa ≤ 3) ∧ (0 ≤ la ∧ la ≤ 2)) ∧ na ≤ 28) ∧ ((na < 0 ∧ z' = -14 ∧ v = ρ) ∨ (0 ≤ na ∧ z' = na ∧ v = upf (up (up ρ 5 sa.toNat la) 6 sa.toNat na) 7 (clr sa.toNat (ρ 7)))))) : z = z' ∧ ∃ n', INV u v n' := by
  have hS := h.2.2.2.2
  rcases hc with ⟨c1, c2, rfl⟩ | ⟨c1, hc⟩
  · rcases hm with ⟨_, m2, rfl⟩ | ⟨m1, _⟩
    · exact ⟨by omega, nn, h⟩
    · exact absurd m1 c1
  · rcases hm with ⟨m1, _⟩ | ⟨_, hm⟩
    · exact absurd c1 m1
    · rcases hc with ⟨c2, c3, rfl⟩ | ⟨c2, c3, rfl⟩ <;> rcases hm with ⟨m2, m3, rfl⟩ | ⟨m2, m3, rfl⟩
      · exact ⟨by omega, nn, h⟩
      · omega
      · omega
      · obtain ⟨s, rfl⟩ : ∃ s : Nat, sa = (s : Int) := ⟨sa.toNat, by omega⟩
        simp only [Int.toNat_natCast] at *
        refine ⟨by omega, nn, h.sheets (fun c hc => ?_) (fun c hc => ?_) ⟨fun s' hs' => ?_, fun s' hs' => ?_, fun s' hs' j hj => ?_⟩⟩
        · unfold hdS
          rw [upf_c (by omega), up_c (by omega), up_c (by omega), up_c (by omega)]
        · rw [upf_c (by omega), up_c (by omega), up_c (by omega)]
        · have b' := hS.1 s' hs'
          unfold hdS
          rw [upf_c (by omega)]
          by_cases he : s' = s
          · subst he
            rw [up_k (by decide), up_k (by decide), up_s, up_k (by decide), up_s, up_s]
            omega
          · rw [up_c (by omega), up_c (by omega), up_c (by omega)]
            exact b'
        · have e' := hS.2.1 s' hs'
          unfold lnC szC at *
          unfold hdS
          rw [upf_c (show 15 + s' ≠ 15 + s + 4 by omega), upf_c (by decide), upf_c (by decide)]
          by_cases he : s' = s
          · subst he
            rw [up_c (show 5 ≠ 6 by decide), up_s, up_s, up_k (show 0 ≠ 2 by decide), up_k (show 0 ≠ 1 by decide), up_s, if_neg (by decide), up_k (show 1 ≠ 2 by decide), up_s, up_s]
            exact ⟨rfl, rfl⟩
          · rw [up_c (show 5 ≠ 6 by decide), up_k he, up_k he, up_c (show 6 ≠ 5 by decide), up_c (show 15 + s' ≠ 15 + s by omega), up_c (show 15 + s' ≠ 15 + s by omega), up_c (show 15 + s' ≠ 15 + s by omega)]
            exact e'
        · unfold hdS
          rw [upf_s]
          by_cases he : s' = s
          · subst he
            rw [upf_s]
            unfold clr zer
            rw [if_pos (by omega), if_pos hj]
            exact ⟨rfl, I32_0⟩
          · rw [upf_c (by omega), up_c (by omega), up_c (by omega), up_c (by omega)]
            unfold clr
            rw [if_neg (by omega)]
            exact hS.2.2 s' hs' j hj
theorem rdj_iff {f f' : Nat → Int} {a b i : Nat} (h : ∀ k, k < 4 → f' (b + 4 * i + k) = f (a + 4 * i + k)) (h2 : i ≠ 0 → f' (b + 4 * i - 4) = f (a + 4 * i - 4)) : RdJ f' b i ↔ RdJ f a i := by
  have k0 := h 0 (by decide)
  rw [Nat.add_zero, Nat.add_zero] at k0
  unfold RdJ
  rw [k0, h 1 (by decide), h 2 (by decide), h 3 (by decide)]
  by_cases hi : i = 0
  · simp [hi]
  · rw [h2 hi]
theorem rdS_at {σ : Nat → Nat → Int} {f : Nat → Int} {cx cl cu cw n a : Nat} (h1 : cx < cl) (h2 : cl < cu) (h3 : cu < cw) : rdS σ f cx cl cu cw n a cx = rdX n a 0 f (σ cx) ∧ rdS σ f cx cl cu cw n a cl = rdX n a 1 f (σ cl) ∧ rdS σ f cx cl cu cw n a cu = rdX n a 2 f (σ cu) ∧ rdS σ f cx cl cu cw n a cw = rdW n a f (σ cw) ∧ ∀ c, (c < cx ∨ cw < c) → rdS σ f cx cl cu cw n a c = σ c := by
  unfold rdS
  refine ⟨?_, ?_, ?_, upf_s, fun c hc => ?_⟩
  · rw [upf_c (by omega), upf_c (by omega), upf_c (by omega), upf_s]
  · rw [upf_c (by omega), upf_c (by omega), upf_s]
  · rw [upf_c (by omega), upf_s]
  · rw [upf_c (by omega), upf_c (by omega), upf_c (by omega), upf_c (by omega)]
theorem arw_read {f x l u w : Nat → Int} {n a : Nat} (h2 : 2 ≤ n ∧ n ≤ 6) (h : ∀ i, i ≤ n → RdJ f a i) : ARW (rdX n a 0 f x) (rdX n a 1 f l) (rdX n a 2 f u) (rdW n a f w) n := by
  have e : ∀ k g i, i ≤ n → rdX n a k f g i = f (a + 4 * i + k) := fun k g i hi => by unfold rdX; rw [if_pos hi]
  have ew : ∀ i, i ≤ n → 0 ≤ rdW n a f w i ∧ rdW n a f w i ≤ 10 := by
    intro i hi
    unfold rdW
    rw [if_pos hi]
    split
    · decide
    · have := h i hi
      unfold RdJ at this
      exact ⟨this.2.2.2.2.2.2.1, this.2.2.2.2.2.2.2⟩
  refine ⟨⟨h2, ?_, fun i hi => ?_, ?_, fun i hi => ?_, fun i hi => ⟨(ew i hi).1, by have := (ew i hi).2; omega⟩⟩, ew⟩
  · rw [e 0 x 0 (by omega)]
    exact (h 0 (by omega)).1 rfl
  · rw [e 0 x i (by omega), e 0 x (i + 1) (by omega)]
    have := (h (i + 1) (by omega)).2.1 (by omega)
    rw [show a + 4 * (i + 1) - 4 = a + 4 * i by omega] at this
    exact this
  · rw [e 0 x n (Nat.le_refl n)]
    exact (h n (Nat.le_refl n)).2.2.1
  · rw [e 1 l i hi, e 2 u i hi]
    have := h i hi
    unfold RdJ at this
    exact ⟨this.2.2.2.1, this.2.2.2.2.1, this.2.2.2.2.2.1⟩
theorem pr_read {σ ρ u v : Nat → Nat → Int} {nn : Nat} {sa la fa z z' : Int} (h : INV σ ρ nn) (hc : (itR (lnC σ) (szC σ) nn sa la fa ≠ 1 ∧ z = itR (lnC σ) (szC σ) nn sa la fa ∧ u = σ) ∨ (itR (lnC σ) (szC σ) nn sa la fa = 1 ∧ ((¬ (∀ i, i ≤ nn → RdJ (σ (15 + sa.toNat + 4)) fa.toNat i) ∧ z = -2 ∧ u = σ) ∨ ((∀ i, i ≤ nn → RdJ (σ (15 + sa.toNat + 4)) fa.toNat i) ∧ z = 1 ∧ u = rdS σ (σ (15 + sa.toNat + 4)) 2 3 4 5 nn fa.toNat)))) (hm : (itR (ρ 5) (ρ 6) nn sa la fa ≠ 1 ∧ z' = itR (ρ 5) (ρ 6) nn sa la fa ∧ v = ρ) ∨ (itR (ρ 5) (ρ 6) nn sa la fa = 1 ∧ ((¬ (∀ i, i ≤ nn → RdJ (ρ 7) (28 * sa + fa).toNat i) ∧ z' = -2 ∧ v = ρ) ∨ ((∀ i, i ≤ nn → RdJ (ρ 7) (28 * sa + fa).toNat i) ∧ z' = 1 ∧ v = rdS ρ (ρ 7) 1 2 3 4 nn (28 * sa + fa).toNat)))) : z = z' ∧ ∃ n', INV u v n' := by
  have hS := h.2.2.2.2
  have hz : itR (ρ 5) (ρ 6) nn sa la fa = itR (lnC σ) (szC σ) nn sa la fa := itR_cg hS.2.1
  rw [hz] at hm
  rcases hc with ⟨c1, c2, rfl⟩ | ⟨c1, hc⟩
  · rcases hm with ⟨m1, m2, rfl⟩ | ⟨m1, _⟩
    · exact ⟨by omega, nn, h⟩
    · omega
  · rcases hm with ⟨m1, _⟩ | ⟨_, hm⟩
    · omega
    · obtain ⟨⟨s1, s2⟩, i1, i2⟩ := itR_1 c1
      have i3 := (hS.1 sa.toNat (by omega)).2.2.2
      unfold szC at i2
      obtain ⟨s, rfl⟩ : ∃ s : Nat, sa = (s : Int) := ⟨sa.toNat, by omega⟩
      obtain ⟨a, rfl⟩ : ∃ a : Nat, fa = (a : Int) := ⟨fa.toNat, by omega⟩
      simp only [Int.toNat_natCast] at *
      rw [show (28 * (s : Int) + (a : Int)).toNat = 28 * s + a by omega] at hm
      have key : ∀ j, j < 28 → ρ 7 (28 * s + j) = σ (15 + s + 4) j := fun j hj => (hS.2.2 s (by omega) j hj).1
      have hrd : (∀ i, i ≤ nn → RdJ (ρ 7) (28 * s + a) i) ↔ ∀ i, i ≤ nn → RdJ (σ (15 + s + 4)) a i := by
        have : ∀ i, i ≤ nn → (RdJ (ρ 7) (28 * s + a) i ↔ RdJ (σ (15 + s + 4)) a i) := fun i hi => rdj_iff (fun k hk => by
          rw [show 28 * s + a + 4 * i + k = 28 * s + (a + 4 * i + k) by omega]
          exact key _ (by omega)) (fun hi0 => by
          rw [show 28 * s + a + 4 * i - 4 = 28 * s + (a + 4 * i - 4) by omega]
          exact key _ (by omega))
        exact ⟨fun hh i hi => (this i hi).mp (hh i hi), fun hh i hi => (this i hi).mpr (hh i hi)⟩
      rw [hrd] at hm
      rcases hc with ⟨c2, c3, rfl⟩ | ⟨c2, c3, rfl⟩
      · rcases hm with ⟨m2, m3, rfl⟩ | ⟨m2, _⟩
        · exact ⟨by omega, nn, h⟩
        · exact absurd m2 c2
      · rcases hm with ⟨m2, _⟩ | ⟨_, m3, rfl⟩
        · exact absurd c2 m2
        · obtain ⟨a1, a2, a3, a4, a5⟩ := rdS_at (σ := σ) (f := σ (15 + s + 4)) (n := nn) (a := a) (show 2 < 3 by decide) (show 3 < 4 by decide) (show 4 < 5 by decide)
          obtain ⟨b1, b2, b3, b4, b5⟩ := rdS_at (σ := ρ) (f := ρ 7) (n := nn) (a := 28 * s + a) (show 1 < 2 by decide) (show 2 < 3 by decide) (show 3 < 4 by decide)
          have eX : ∀ (k : Nat) (g : Nat → Int), k < 4 → rdX nn (28 * s + a) k (ρ 7) g = rdX nn a k (σ (15 + s + 4)) g := by
            intro k g hk
            funext j
            unfold rdX
            by_cases hj : j ≤ nn
            · rw [if_pos hj, if_pos hj, show 28 * s + a + 4 * j + k = 28 * s + (a + 4 * j + k) by omega]
              exact key _ (by omega)
            · rw [if_neg hj, if_neg hj]
          have eW : ∀ g : Nat → Int, rdW nn (28 * s + a) (ρ 7) g = rdW nn a (σ (15 + s + 4)) g := by
            intro g
            funext j
            unfold rdW
            by_cases hj : j ≤ nn
            · rw [if_pos hj, if_pos hj, show 28 * s + a + 4 * j + 3 = 28 * s + (a + 4 * j + 3) by omega, key _ (by omega)]
            · rw [if_neg hj, if_neg hj]
          refine ⟨by omega, nn, h.arch ?_ ?_ ?_ ?_ ?_ ?_ ?_ (fun c hc => a5 c (by omega)) (fun c hc => b5 c (by omega))⟩
          · rw [a1, a2, a3, a4]; exact arw_read h.n c2
          · rw [a5 1 (by omega)]; exact h.2.1.1
          · rw [b5 0 (by omega)]; exact h.2.1.2
          · rw [b1, a1, eX 0 _ (by decide), h.2.2.2.1.1]
          · rw [b2, a2, eX 1 _ (by decide), h.2.2.2.1.2.1]
          · rw [b3, a3, eX 2 _ (by decide), h.2.2.2.1.2.2.1]
          · rw [b4, a4, eW, h.2.2.2.1.2.2.2]
theorem pr_told {σ ρ u : Nat → Nat → Int} {nn : Nat} {ia ka z z' : Int} (h : INV σ ρ nn) (hc : (∀ c, c ≠ 6 → u c = σ c) ∧ z = tdF nn (σ 2) (σ 3) (σ 4) (σ 5) (mo (σ 2) (σ 5) nn) ia ka) (hm : z' = tdF nn (ρ 1) (ρ 2) (ρ 3) (ρ 4) (moM ρ nn) ia ka) : z = z' ∧ ∃ n', INV u ρ n' := by
  obtain ⟨c1, c2⟩ := hc
  refine ⟨?_, nn, h.q ⟨fun c hc => c1 c (by omega), by rw [c1 8 (by decide)], by rw [c1 9 (by decide)], by rw [c1 10 (by decide)]⟩ (Core.rf ρ)⟩
  rw [c2, hm, h.moe, h.2.2.2.1.1, h.2.2.2.1.2.1, h.2.2.2.1.2.2.1, h.2.2.2.1.2.2.2]
theorem INV.ln {σ ρ v : Nat → Nat → Int} {nn : Nat} (h : INV σ ρ nn) (hl : LN ρ nn v) : LI (RF (σ 2) (σ 3) (σ 4) (mo (σ 2) (σ 5) nn) nn) (2 * nn + 3) (AllT (2 * nn + 3)) v := by
  have h1 : LI (RF (ρ 1) (ρ 2) (ρ 3) (moM ρ nn) nn) (2 * nn + 3) (AllT (2 * nn + 3)) v := hl
  rw [h.moe, h.2.2.2.1.1, h.2.2.2.1.2.1, h.2.2.2.1.2.2.1] at h1
  exact h1
theorem INV.rf {σ ρ : Nat → Nat → Int} {nn : Nat} (h : INV σ ρ nn) : RFM ρ nn = RF (σ 2) (σ 3) (σ 4) (mo (σ 2) (σ 5) nn) nn := by
  show RF (ρ 1) (ρ 2) (ρ 3) (moM ρ nn) nn = _
  rw [h.moe, h.2.2.2.1.1, h.2.2.2.1.2.1, h.2.2.2.1.2.2.1]
theorem INV.two {σ ρ : Nat → Nat → Int} {nn : Nat} (h : INV σ ρ nn) : ∀ p q, p < q → q < 2 * nn + 3 → ¬ Two (RFM ρ nn) p q := by
  rw [h.rf]
  exact no_two h.1.1.pa
theorem INV.loose {σ ρ : Nat → Nat → Int} {nn : Nat} (h : INV σ ρ nn) : Loose ρ nn = ∀ i, i < nn + 1 → mo (σ 2) (σ 5) nn i = 0 := by
  unfold Loose
  rw [h.moe]
theorem pr_stands {σ ρ u v : Nat → Nat → Int} {nn : Nat} {z z' : Int} (h : INV σ ρ nn) (hc : FrC σ u ∧ z = bZ (HoldP (σ 2) (σ 3) (σ 4) (mo (σ 2) (σ 5) nn) nn 1 1)) (hm : FrA ρ v ∧ LN ρ nn v ∧ z' = v 0 12) : z = z' ∧ ∃ n', INV u v n' := by
  refine ⟨?_, nn, h.q hc.1 hm.1.core⟩
  rw [hc.2, hm.2.2]
  exact (eq_stands h.1.1 (h.ln hm.2.1)).symm
theorem pr_thrust {σ ρ u v : Nat → Nat → Int} {nn : Nat} {wh pt z z' : Int} (h : INV σ ρ nn) (hc : (¬ ((wh = 0 ∨ wh = 1) ∧ (pt = 0 ∨ pt = 1)) ∧ z = -1 ∧ u = σ) ∨ (((wh = 0 ∨ wh = 1) ∧ (pt = 0 ∨ pt = 1)) ∧ FrC σ u ∧ ∃ u1, ∃ cnt : Nat, GA σ 5 nn u1 ∧ u1 7 1 = (cnt : Int) ∧ TB u1 cnt ∧ ThC (HoldP (σ 2) (σ 3) (σ 4) (mo (σ 2) (σ 5) nn) nn 1 1) u1 cnt (σ 2 nn) wh pt z)) (hm : (¬ ((0 ≤ wh ∧ wh ≤ 1) ∧ (0 ≤ pt ∧ pt ≤ 1)) ∧ z' = -1 ∧ v = ρ) ∨ (((0 ≤ wh ∧ wh ≤ 1) ∧ (0 ≤ pt ∧ pt ≤ 1)) ∧ FrA ρ v ∧ LN ρ nn v ∧ ThM (Loose ρ nn) v wh pt z')) : z = z' ∧ ∃ n', INV u v n' := by
  rcases hc with ⟨c1, c2, rfl⟩ | ⟨c1, c2, u1, cnt, c3, c4, c5, c6⟩
  · rcases hm with ⟨_, m2, rfl⟩ | ⟨m1, _⟩
    · exact ⟨by omega, nn, h⟩
    · omega
  · rcases hm with ⟨m1, _⟩ | ⟨_, m2, m3, m4⟩
    · omega
    · rw [h.loose] at m4
      exact ⟨eq_thrust h.hs c3 c4 c5 (h.ln m3) c6 m4, nn, h.q c2 m2.core⟩
theorem pr_height {σ ρ u v : Nat → Nat → Int} {nn : Nat} {ii pt z z' : Int} (h : INV σ ρ nn) (hc : (¬ ((0 ≤ ii ∧ ii ≤ (nn : Int)) ∧ (pt = 0 ∨ pt = 1)) ∧ z = -1000000000000001 ∧ u = σ) ∨ ((0 ≤ ii ∧ ii ≤ (nn : Int)) ∧ (pt = 0 ∨ pt = 1) ∧ FrC σ u ∧ ∃ u1, ∃ cnt : Nat, GA σ 5 nn u1 ∧ u1 7 1 = (cnt : Int) ∧ TB u1 cnt ∧ HtC (HoldP (σ 2) (σ 3) (σ 4) (mo (σ 2) (σ 5) nn) nn 1 1) u1 cnt nn ii.toNat pt z)) (hm : (¬ ((0 ≤ ii ∧ ii ≤ (nn : Int)) ∧ (0 ≤ pt ∧ pt ≤ 1)) ∧ z' = -1000000000000001 ∧ v = ρ) ∨ ((0 ≤ ii ∧ ii ≤ (nn : Int)) ∧ (0 ≤ pt ∧ pt ≤ 1) ∧ FrA ρ v ∧ LN ρ nn v ∧ HtM (Loose ρ nn) ρ v nn ii.toNat pt z')) : z = z' ∧ ∃ n', INV u v n' := by
  rcases hc with ⟨c1, c2, rfl⟩ | ⟨c0, c1, c2, u1, cnt, c3, c4, c5, c6⟩
  · rcases hm with ⟨_, m2, rfl⟩ | ⟨m0, m1, _⟩
    · exact ⟨by omega, nn, h⟩
    · omega
  · rcases hm with ⟨m1, _⟩ | ⟨_, _, m2, m3, m4⟩
    · omega
    · rw [h.loose] at m4
      unfold HtM at m4
      rw [h.moe, h.2.2.2.1.1] at m4
      exact ⟨eq_height (by omega) h.hs c3 c4 (h.ln m3) c6 m4, nn, h.q c2 m2.core⟩
theorem pr_bar {σ ρ u v : Nat → Nat → Int} {nn : Nat} {ii z z' : Int} (h : INV σ ρ nn) (hc : (¬ (-1 ≤ ii ∧ ii ≤ 3) ∧ z = -1 ∧ u = σ) ∨ ((-1 ≤ ii ∧ ii ≤ 3) ∧ FrC σ u ∧ ∃ u1, GA σ 5 nn u1 ∧ BaC (HoldP (σ 2) (σ 3) (σ 4) (mo (σ 2) (σ 5) nn) nn 1 1) u1 nn ii z)) (hm : Core ρ v ∧ BarM ρ nn ii z') : z = z' ∧ ∃ n', INV u v n' := by
  obtain ⟨m1, hm⟩ := hm
  unfold BarM at hm
  rcases hc with ⟨c1, c2, rfl⟩ | ⟨c1, c2, u1, c3, c4⟩
  · rcases hm with ⟨_, m2⟩ | ⟨m2, _⟩
    · exact ⟨by omega, nn, h.q (FrC.rf _) m1⟩
    · exact absurd m2 c1
  · rcases hm with ⟨m2, _⟩ | ⟨_, τ, m3, m4⟩
    · exact absurd c1 m2
    · rw [h.rf] at m4
      exact ⟨eq_bar c1 h.hs c3 c4 ⟨τ, h.ln m3, m4⟩, nn, h.q c2 m1⟩
theorem pr_fits {σ ρ u v : Nat → Nat → Int} {nn : Nat} {aa ba ka da z z' : Int} (h : INV σ ρ nn) (hc : FrC σ u ∧ ((¬ ((-20 ≤ aa ∧ aa ≤ 20) ∧ (-20 ≤ ba ∧ ba ≤ 20) ∧ (0 ≤ ka ∧ ka ≤ 1000) ∧ (1 ≤ da ∧ da ≤ 1000)) ∧ z = -1) ∨ (((-20 ≤ aa ∧ aa ≤ 20) ∧ (-20 ≤ ba ∧ ba ≤ 20) ∧ (0 ≤ ka ∧ ka ≤ 1000) ∧ (1 ≤ da ∧ da ≤ 1000)) ∧ z = bZ (∀ i, i ≤ nn → FtI (σ 2) (σ 3) (σ 4) (mo (σ 2) (σ 5) nn) nn aa ba ka da i)))) (hm : Core ρ v ∧ ((¬ ((-20 ≤ aa ∧ aa ≤ 20) ∧ (-20 ≤ ba ∧ ba ≤ 20) ∧ (0 ≤ ka ∧ ka ≤ 1000) ∧ (1 ≤ da ∧ da ≤ 1000)) ∧ z' = -1) ∨ (((-20 ≤ aa ∧ aa ≤ 20) ∧ (-20 ≤ ba ∧ ba ≤ 20) ∧ (0 ≤ ka ∧ ka ≤ 1000) ∧ (1 ≤ da ∧ da ≤ 1000)) ∧ z' = bZ (KpF (RFM ρ nn) (2 * nn + 3) (aa * da) (ba * da) ka da)))) : z = z' ∧ ∃ n', INV u v n' := by
  obtain ⟨c0, hc⟩ := hc
  obtain ⟨m0, hm⟩ := hm
  refine ⟨?_, nn, h.q c0 m0⟩
  rcases hc with ⟨c1, c2⟩ | ⟨c1, c2⟩ <;> rcases hm with ⟨m1, m2⟩ | ⟨m1, m2⟩
  · rw [c2, m2]
  · exact absurd m1 c1
  · exact absurd c1 m1
  · rw [c2, m2, h.rf]
    exact congrArg bZ (propext (eq_fits c1.2.2.1.1))
theorem pr_factor {σ ρ u v : Nat → Nat → Int} {nn : Nat} {pt z z' : Int} (h : INV σ ρ nn) (hc : (¬ (pt = 0 ∨ pt = 1) ∧ z = -1 ∧ u = σ) ∨ ((pt = 0 ∨ pt = 1) ∧ FrC σ u ∧ FcC (σ 2) (σ 3) (σ 4) (mo (σ 2) (σ 5) nn) nn pt z)) (hm : Core ρ v ∧ FcM ρ nn pt z') : z = z' ∧ ∃ n', INV u v n' := by
  obtain ⟨m0, hm⟩ := hm
  unfold FcM at hm
  rcases hc with ⟨c1, c2, rfl⟩ | ⟨c1, c2, c3⟩
  · rcases hm with ⟨_, m2⟩ | ⟨m1, _⟩
    · exact ⟨by omega, nn, h.q (FrC.rf _) m0⟩
    · omega
  · rcases hm with ⟨m1, _⟩ | ⟨_, τ, m3, m4⟩
    · omega
    · refine ⟨?_, nn, h.q c2 m0⟩
      have m5 : FI (RTf (ρ 1) (ρ 2) (ρ 3) (moM ρ nn) nn) (2 * nn + 4) (All4 (2 * nn + 4)) τ := m3
      rw [h.moe, h.2.2.2.1.1, h.2.2.2.1.2.1, h.2.2.2.1.2.2.1] at m5
      exact eq_factor h.1.1 m5 c3 m4
theorem INV.mor {σ ρ : Nat → Nat → Int} {nn : Nat} (h : INV σ ρ nn) {p : Int} : 1 ≤ p ∧ p ≤ 10 → ∀ i, 1 ≤ i → i < nn → AMb (mor ρ p i) nn := by
  intro hp i _ _
  refine am_of (x := σ 2) (l := σ 3) (u := σ 4) (w := morW (σ 5) p i) (ar_w h.1.1 (morW_b h.1.2 hp)) ?_ ?_ ?_ ?_ ?_
  · show up ρ 4 i _ 0 0 = _
    rw [up_c (by decide)]; exact h.2.1.2
  · show up ρ 4 i _ 1 = _
    rw [up_c (by decide)]; exact h.2.2.2.1.1
  · show up ρ 4 i _ 2 = _
    rw [up_c (by decide)]; exact h.2.2.2.1.2.1
  · show up ρ 4 i _ 3 = _
    rw [up_c (by decide)]; exact h.2.2.2.1.2.2.1
  · show up ρ 4 i (ρ 4 i + p) 4 = _
    unfold up morW
    rw [if_pos rfl, h.2.2.2.1.2.2.2]
theorem INV.laid {σ ρ : Nat → Nat → Int} {nn : Nat} (h : INV σ ρ nn) : ∀ s, AMb (laid ρ nn s) nn := by
  intro s
  refine am_of (x := σ 2) (l := σ 3) (u := σ 4) (w := laidW nn s (σ 5)) (ar_w h.1.1 (laid_b h.1.1.2.2.2.2.2)) ?_ ?_ ?_ ?_ ?_
  · show upf ρ 4 _ 0 0 = _
    rw [upf_c (by decide)]; exact h.2.1.2
  · show upf ρ 4 _ 1 = _
    rw [upf_c (by decide)]; exact h.2.2.2.1.1
  · show upf ρ 4 _ 2 = _
    rw [upf_c (by decide)]; exact h.2.2.2.1.2.1
  · show upf ρ 4 _ 3 = _
    rw [upf_c (by decide)]; exact h.2.2.2.1.2.2.1
  · show upf ρ 4 (laidW nn s (ρ 4)) 4 = _
    rw [upf_s, h.2.2.2.1.2.2.2]
theorem pr_harms {σ ρ u v : Nat → Nat → Int} {nn : Nat} {pa z z' : Int} (h : INV σ ρ nn) (hc : FrC σ u ∧ HrC σ nn pa z) (hm : Core ρ v ∧ HrM ρ nn pa z') : z = z' ∧ ∃ n', INV u v n' := ⟨eq_harms h.1.1 h.1.2 h.2.2.2.1.1 h.2.2.2.1.2.1 h.2.2.2.1.2.2.1 h.2.2.2.1.2.2.2 hc.2 hm.2, nn, h.q hc.1 hm.1⟩
theorem pr_falls {σ ρ u v : Nat → Nat → Int} {nn : Nat} {z z' : Int} (h : INV σ ρ nn) (hc : FrC σ u ∧ FlC σ nn z) (hm : Core ρ v ∧ FlM ρ nn z') : z = z' ∧ ∃ n', INV u v n' := ⟨eq_falls h.1.1 h.2.2.2.1.1 h.2.2.2.1.2.1 h.2.2.2.1.2.2.1 h.2.2.2.1.2.2.2 hc.2 hm.2, nn, h.q hc.1 hm.1⟩
theorem INV_0 : INV sC0 rM0 2 := by
  obtain ⟨a1, a2, a3, a4, a5, a6⟩ := bgC_at (σ := sgB) (n := 2)
  obtain ⟨b1, b2, b3, b4, b5, b6⟩ := bgM_at (σ := up (up (up (up rgB 5 0 (-1)) 5 1 (-1)) 5 2 (-1)) 5 3 (-1)) (n := 2)
  have r : ∀ c, 1 ≤ c → c ≠ 5 → up (up (up (up rgB 5 0 (-1)) 5 1 (-1)) 5 2 (-1)) 5 3 (-1) c = fun _ => 0 := by
    intro c h1 h2
    rw [up_c h2, up_c h2, up_c h2, up_c h2]
    funext j
    unfold rgB
    rw [if_neg (by omega)]
  unfold sC0 rM0
  refine ⟨?_, ⟨a1, b1⟩, ⟨?_, ?_, ?_⟩, ⟨?_, ?_, ?_, ?_⟩, fun s hs => ?_, fun s hs => ?_, fun s hs j hj => ?_⟩
  · rw [a2, a3, a4, a5]; exact arw_begin (by decide) (by decide)
  · rw [a6 8 (by decide)]; rfl
  · rw [a6 9 (by decide)]; rfl
  · rw [a6 10 (by decide)]; rfl
  · rw [b2, a2, r 1 (by decide) (by decide)]; rfl
  · rw [b3, a3, r 2 (by decide) (by decide)]; rfl
  · rw [b4, a4, r 3 (by decide) (by decide)]; rfl
  · rw [b5, a5, r 4 (by decide) (by decide)]; rfl
  · rw [a6 (15 + s) (by omega)]
    rcases (show s = 0 ∨ s = 1 ∨ s = 2 ∨ s = 3 by omega) with rfl | rfl | rfl | rfl <;> decide
  · unfold lnC szC
    rw [a6 (15 + s) (by omega), b6 5 (by decide), b6 6 (by decide)]
    rcases (show s = 0 ∨ s = 1 ∨ s = 2 ∨ s = 3 by omega) with rfl | rfl | rfl | rfl <;> decide
  · rw [a6 (15 + s + 4) (by omega), b6 7 (by decide), r 7 (by decide) (by decide)]
    rcases (show s = 0 ∨ s = 1 ∨ s = 2 ∨ s = 3 by omega) with rfl | rfl | rfl | rfl <;> exact ⟨rfl, I32_0⟩
