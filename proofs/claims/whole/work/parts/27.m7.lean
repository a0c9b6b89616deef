theorem cr_lt {a x b y c z : Int} (hx : 0 < x) (hy : 0 < y) (hz : 0 < z) (h1 : b * x < a * y) (h2 : c * y ≤ b * z) : c * x < a * z := by
  have e1 : b * x * z < a * y * z := Int.mul_lt_mul_of_pos_right h1 hz
  have e2 : c * y * x ≤ b * z * x := Int.mul_le_mul_of_nonneg_right h2 (by omega)
  have e3 : c * x * y < a * z * y := by grind
  exact Int.lt_of_mul_lt_mul_right e3 (by omega)
theorem cr_lt2 {a x b y c z : Int} (hx : 0 < x) (hy : 0 < y) (hz : 0 < z) (h1 : b * x ≤ a * y) (h2 : c * y < b * z) : c * x < a * z := by
  have e1 : b * x * z ≤ a * y * z := Int.mul_le_mul_of_nonneg_right h1 (by omega)
  have e2 : c * y * x < b * z * x := Int.mul_lt_mul_of_pos_right h2 hx
  have e3 : c * x * y < a * z * y := by grind
  exact Int.lt_of_mul_lt_mul_right e3 (by omega)
theorem cr_le {a x b y c z : Int} (hx : 0 < x) (hy : 0 < y) (hz : 0 < z) (h1 : b * x ≤ a * y) (h2 : c * y ≤ b * z) : c * x ≤ a * z := by
  have e1 : b * x * z ≤ a * y * z := Int.mul_le_mul_of_nonneg_right h1 (by omega)
  have e2 : c * y * x ≤ b * z * x := Int.mul_le_mul_of_nonneg_right h2 (by omega)
  have e3 : c * x * y ≤ a * z * y := by grind
  exact Int.le_of_mul_le_mul_right e3 hy
theorem cr_eq {a x b y c z : Int} (hx : 0 < x) (hy : 0 < y) (hz : 0 < z) (h1 : a * y = b * x) (h2 : b * z = c * y) : a * z = c * x :=
  Int.le_antisymm (cr_le (a := c) (x := z) (b := b) (y := y) (c := a) (z := x) hz hy hx (by omega) (by omega)) (cr_le (b := b) (y := y) hx hy hz (by omega) (by omega))
theorem LexB.trans {a b k d a' b' k' d' a2 b2 k2 d2 : Int} (hd : 0 < d) (hd' : 0 < d') (hd2 : 0 < d2) (h1 : LexB a b k d a' b' k' d') (h2 : LexB a' b' k' d' a2 b2 k2 d2) : LexB a b k d a2 b2 k2 d2 := by
  rcases h1 with h1 | ⟨h1, h3 | ⟨h3, h5⟩⟩ <;> rcases h2 with h2 | ⟨h2, h4 | ⟨h4, h6⟩⟩
  · exact Or.inl (cr_lt hd hd' hd2 h1 (by omega))
  · exact Or.inl (cr_lt hd hd' hd2 h1 (by omega))
  · exact Or.inl (cr_lt hd hd' hd2 h1 (by omega))
  · exact Or.inl (cr_lt2 hd hd' hd2 (by omega) h2)
  · exact Or.inr ⟨cr_eq hd hd' hd2 h1 h2, Or.inl (cr_lt (a := a2) (x := d2) (b := a') (y := d') (c := a) (z := d) hd2 hd' hd h4 (by omega))⟩
  · exact Or.inr ⟨cr_eq hd hd' hd2 h1 h2, Or.inl (cr_lt2 (a := a2) (x := d2) (b := a') (y := d') (c := a) (z := d) hd2 hd' hd (by omega) h3)⟩
  · exact Or.inl (cr_lt2 hd hd' hd2 (by omega) h2)
  · exact Or.inr ⟨cr_eq hd hd' hd2 h1 h2, Or.inl (cr_lt (a := a2) (x := d2) (b := a') (y := d') (c := a) (z := d) hd2 hd' hd h4 (by omega))⟩
  · exact Or.inr ⟨cr_eq hd hd' hd2 h1 h2, Or.inr ⟨cr_eq hd hd' hd2 h3 h4, cr_lt (a := b2) (x := d2) (b := b') (y := d') (c := b) (z := d) hd2 hd' hd h6 (by omega)⟩⟩
theorem zc_lt {a b e : Int} (he : 0 < e) : a * e < b * e ↔ a < b := ⟨fun h => Int.lt_of_mul_lt_mul_right h (by omega), fun h => Int.mul_lt_mul_of_pos_right h he⟩
theorem zc_le {a b e : Int} (he : 0 < e) : a * e ≤ b * e ↔ a ≤ b := ⟨fun h => Int.le_of_mul_le_mul_right h he, fun h => Int.mul_le_mul_of_nonneg_right h (by omega)⟩
theorem zc_eq {a b e : Int} (he : 0 < e) : a * e = b * e ↔ a = b := ⟨fun h => Int.le_antisymm ((zc_le he).mp (by omega)) ((zc_le he).mp (by omega)), fun h => by rw [h]⟩
theorem LexB.scale {a b k d e a' b' k' d' : Int} (he : 0 < e) : LexB (a * e) (b * e) (k * e) (d * e) a' b' k' d' ↔ LexB a b k d a' b' k' d' := by
  unfold LexB
  rw [show k' * (d * e) = k' * d * e from by grind, show k * e * d' = k * d' * e from by grind, show a * e * d' = a * d' * e from by grind, show a' * (d * e) = a' * d * e from by grind, show b * e * d' = b * d' * e from by grind, show b' * (d * e) = b' * d * e from by grind, zc_lt he, zc_eq he, zc_lt he, zc_eq he, zc_lt he]
theorem KpF.scale {f : Nat → Nat → Int} {nr : Nat} {a b k d e : Int} (he : 0 < e) : KpF f nr (a * e) (b * e) (k * e) (d * e) ↔ KpF f nr a b k d := by
  unfold KpF
  refine ⟨fun h r hr => ?_, fun h r hr => ?_⟩
  · have h1 := h r hr
    rw [show f r 4 * (d * e) = f r 4 * d * e from by grind, show f r 0 * (a * e) + f r 1 * (b * e) + f r 2 * (k * e) = (f r 0 * a + f r 1 * b + f r 2 * k) * e from by grind] at h1
    exact (zc_le he).mp h1
  · have h1 := (zc_le he).mpr (h r hr)
    rw [show f r 4 * (d * e) = f r 4 * d * e from by grind, show f r 0 * (a * e) + f r 1 * (b * e) + f r 2 * (k * e) = (f r 0 * a + f r 1 * b + f r 2 * k) * e from by grind]
    exact h1
theorem Vx.uniq {f : Nat → Nat → Int} {p q r : Nat} {a b k d a' b' k' d' : Int} (h : Vx f p q r a b k d) (h' : Vx f p q r a' b' k' d') : a = a' ∧ b = b' ∧ k = k' ∧ d = d' := by
  obtain ⟨h1, s, hs, e1, e2, e3, e4⟩ := h
  obtain ⟨h2, t, ht, f1, f2, f3, f4⟩ := h'
  have hst : s = t := by
    rcases hs with rfl | rfl <;> rcases ht with rfl | rfl <;> omega
  subst hst
  exact ⟨by omega, by omega, by omega, by omega⟩
/-- what is kept of lines, once the triples of a set have been seen -/
def LI (f : Nat → Nat → Int) (nr : Nat) (S : Nat → Nat → Nat → Prop) (τ : Nat → Nat → Int) : Prop := LB τ ∧ (τ 0 12 = 0 → ∀ p q r, S p q r → ∀ a b k d, Vx f p q r a b k d → ¬ KpF f nr a b k d) ∧
  (τ 0 12 = 1 → KpF f nr (τ 10 0) (τ 10 1) (τ 10 2) (τ 0 14) ∧ (∃ a b, KpF f nr a b (τ 0 15) (τ 0 16)) ∧ ∀ p q r, S p q r → ∀ a b k d, Vx f p q r a b k d → KpF f nr a b k d → ¬ LexB a b k d (τ 10 0) (τ 10 1) (τ 10 2) (τ 0 14) ∧ τ 0 15 * d ≤ k * τ 0 16)
theorem LI.mono {f : Nat → Nat → Int} {nr : Nat} {S S' : Nat → Nat → Nat → Prop} {τ : Nat → Nat → Int} (h : LI f nr S τ) (hS : ∀ p q r, S' p q r → S p q r) : LI f nr S' τ :=
  ⟨h.1, fun h0 p q r hs => h.2.1 h0 p q r (hS p q r hs), fun h1 => ⟨(h.2.2 h1).1, (h.2.2 h1).2.1, fun p q r hs => (h.2.2 h1).2.2 p q r (hS p q r hs)⟩⟩
theorem LB.frs {τ u : Nat → Nat → Int} (h : LB τ) (hF : FrS τ u) : LB u := by
  unfold LB
  rw [hF.2 12 (by decide), hF.2 14 (by decide), hF.2 15 (by decide), hF.2 16 (by decide), hF.1 10 (by decide) (by decide)]
  exact h
theorem li_no {f : Nat → Nat → Int} {nr p q r : Nat} {S S' : Nat → Nat → Nat → Prop} {τ u : Nat → Nat → Int} (h : LI f nr S τ) (hF : FrS τ u) (hn : ∀ a b k d, Vx f p q r a b k d → ¬ KpF f nr a b k d) (hS : ∀ p' q' r', S' p' q' r' → S p' q' r' ∨ (p' = p ∧ q' = q ∧ r' = r)) : LI f nr S' u := by
  refine ⟨h.1.frs hF, fun h0 p' q' r' hs a b k d hv => ?_, fun h1 => ?_⟩
  · rw [hF.2 12 (by decide)] at h0
    rcases hS p' q' r' hs with h2 | ⟨rfl, rfl, rfl⟩
    · exact h.2.1 h0 p' q' r' h2 a b k d hv
    · exact hn a b k d hv
  · rw [hF.2 12 (by decide)] at h1
    rw [hF.2 14 (by decide), hF.2 15 (by decide), hF.2 16 (by decide), hF.1 10 (by decide) (by decide)]
    refine ⟨(h.2.2 h1).1, (h.2.2 h1).2.1, fun p' q' r' hs a b k d hv hk => ?_⟩
    rcases hS p' q' r' hs with h2 | ⟨rfl, rfl, rfl⟩
    · exact (h.2.2 h1).2.2 p' q' r' h2 a b k d hv hk
    · exact absurd hk (hn a b k d hv)
theorem LexB.irr {a b k d : Int} : ¬ LexB a b k d a b k d := by
  unfold LexB
  omega
theorem li_yes {f : Nat → Nat → Int} {nr p q r : Nat} {S S' : Nat → Nat → Nat → Prop} {τ u w : Nat → Nat → Int} (h : LI f nr S τ) (hF : FrS τ u) (hV : Vx f p q r (u 9 0) (u 9 1) (u 9 2) (u 0 11)) (hK : KpF f nr (u 9 0) (u 9 1) (u 9 2) (u 0 11)) (hT : TS u w) (hS : ∀ p' q' r', S' p' q' r' → S p' q' r' ∨ (p' = p ∧ q' = q ∧ r' = r)) : LI f nr S' w := by
  have hLu : LB u := h.1.frs hF
  obtain ⟨a, b, k, d, e, he, e0, e1, e2, e3, hd, hB, τ1, hT1, hT2⟩ := hT
  rw [e0, e1, e2, e3] at hV hK
  have hK1 := (KpF.scale he).mp hK
  have f10 : u 10 = τ 10 := hF.1 10 (by decide) (by decide)
  have f12 : u 0 12 = τ 0 12 := hF.2 12 (by decide)
  have f14 : u 0 14 = τ 0 14 := hF.2 14 (by decide)
  have f15 : u 0 15 = τ 0 15 := hF.2 15 (by decide)
  have f16 : u 0 16 = τ 0 16 := hF.2 16 (by decide)
  have w12 : w 0 12 = 1 := by rcases hT2 with ⟨_, rfl⟩ | ⟨_, rfl⟩ <;> exact up_s _ _ _ _
  have wL : (((u 0 12 = 0 ∨ k * u 0 16 < u 0 15 * d) ∧ w 0 15 = k ∧ w 0 16 = d) ∨ (¬ (u 0 12 = 0 ∨ k * u 0 16 < u 0 15 * d) ∧ w 0 15 = u 0 15 ∧ w 0 16 = u 0 16)) := by
    rcases hT2 with ⟨h1, rfl⟩ | ⟨h1, rfl⟩
    · exact Or.inl ⟨h1, rfl, rfl⟩
    · refine Or.inr ⟨h1, ?_, ?_⟩ <;> rcases hT1 with ⟨_, rfl⟩ | ⟨_, rfl⟩ <;> rfl
  have wB : (((u 0 12 = 0 ∨ LexB a b k d (u 10 0) (u 10 1) (u 10 2) (u 0 14)) ∧ w 10 0 = a ∧ w 10 1 = b ∧ w 10 2 = k ∧ w 0 14 = d) ∨ (¬ (u 0 12 = 0 ∨ LexB a b k d (u 10 0) (u 10 1) (u 10 2) (u 0 14)) ∧ w 10 0 = u 10 0 ∧ w 10 1 = u 10 1 ∧ w 10 2 = u 10 2 ∧ w 0 14 = u 0 14)) := by
    rcases hT1 with ⟨h1, rfl⟩ | ⟨h1, rfl⟩
    · refine Or.inl ⟨h1, ?_, ?_, ?_, ?_⟩ <;> rcases hT2 with ⟨_, rfl⟩ | ⟨_, rfl⟩ <;> rfl
    · refine Or.inr ⟨h1, ?_, ?_, ?_, ?_⟩ <;> rcases hT2 with ⟨_, rfl⟩ | ⟨_, rfl⟩ <;> rfl
  refine ⟨Or.inr ⟨w12, ?_, ?_⟩, fun h0 => by omega, fun _ => ⟨?_, ?_, fun p' q' r' hs a' b' k' d' hv hk => ⟨?_, ?_⟩⟩⟩
  · rcases wB with ⟨_, x0, x1, x2, x3⟩ | ⟨x9, x0, x1, x2, x3⟩
    · rw [x0, x1, x2, x3]; exact ⟨hd, hB⟩
    · rw [x0, x1, x2, x3]
      rcases hLu with x8 | x8
      · exact absurd (Or.inl x8) x9
      · exact x8.2.1
  · rcases wL with ⟨_, x0, x1⟩ | ⟨x9, x0, x1⟩
    · rw [x0, x1]; exact ⟨hd, hB.1, hB.2.2.2⟩
    · rw [x0, x1]
      rcases hLu with x8 | x8
      · exact absurd (Or.inl x8) x9
      · exact x8.2.2
  · rcases wB with ⟨_, x0, x1, x2, x3⟩ | ⟨x9, x0, x1, x2, x3⟩
    · rw [x0, x1, x2, x3]; exact hK1
    · rw [x0, x1, x2, x3]
      rcases hLu with x8 | x8
      · exact absurd (Or.inl x8) x9
      · rw [f10, f14]; exact (h.2.2 (by omega)).1
  · rcases wL with ⟨_, x0, x1⟩ | ⟨x9, x0, x1⟩
    · rw [x0, x1]; exact ⟨a, b, hK1⟩
    · rw [x0, x1]
      rcases hLu with x8 | x8
      · exact absurd (Or.inl x8) x9
      · rw [f15, f16]; exact (h.2.2 (by omega)).2.1
  · have hd' : 0 < d' := hv.1
    rcases hS p' q' r' hs with h2 | ⟨rfl, rfl, rfl⟩
    · rcases wB with ⟨x9, x0, x1, x2, x3⟩ | ⟨x9, x0, x1, x2, x3⟩
      · rw [x0, x1, x2, x3]
        rcases hLu with x8 | x8
        · exact absurd hk (h.2.1 (by omega) p' q' r' h2 a' b' k' d' hv)
        · intro y
          have y2 := x9.resolve_left (by omega)
          have y3 := y.trans hd' hd x8.2.1.1 y2
          rw [f10, f14] at y3
          exact ((h.2.2 (by omega)).2.2 p' q' r' h2 a' b' k' d' hv hk).1 y3
      · rw [x0, x1, x2, x3]
        rcases hLu with x8 | x8
        · exact absurd (Or.inl x8) x9
        · rw [f10, f14]; exact ((h.2.2 (by omega)).2.2 p' q' r' h2 a' b' k' d' hv hk).1
    · obtain ⟨rfl, rfl, rfl, rfl⟩ := hv.uniq hV
      rw [LexB.scale he]
      rcases wB with ⟨x9, x0, x1, x2, x3⟩ | ⟨x9, x0, x1, x2, x3⟩
      · rw [x0, x1, x2, x3]; exact LexB.irr
      · rw [x0, x1, x2, x3]; exact fun y => x9 (Or.inr y)
  · have hd' : 0 < d' := hv.1
    rcases hS p' q' r' hs with h2 | ⟨rfl, rfl, rfl⟩
    · rcases wL with ⟨x9, x0, x1⟩ | ⟨x9, x0, x1⟩
      · rw [x0, x1]
        rcases hLu with x8 | x8
        · exact absurd hk (h.2.1 (by omega) p' q' r' h2 a' b' k' d' hv)
        · have y2 := x9.resolve_left (by omega)
          have y3 := ((h.2.2 (by omega)).2.2 p' q' r' h2 a' b' k' d' hv hk).2
          rw [← f15, ← f16] at y3
          exact cr_le (a := k') (x := d') (b := u 0 15) (y := u 0 16) (c := k) (z := d) hd' x8.2.2.1 hd (by omega) (by omega)
      · rw [x0, x1]
        rcases hLu with x8 | x8
        · exact absurd (Or.inl x8) x9
        · rw [f15, f16]; exact ((h.2.2 (by omega)).2.2 p' q' r' h2 a' b' k' d' hv hk).2
    · obtain ⟨rfl, rfl, rfl, rfl⟩ := hv.uniq hV
      rcases wL with ⟨x9, x0, x1⟩ | ⟨x9, x0, x1⟩
      · rw [x0, x1]; grind
      · rw [x0, x1]
        have y : u 0 15 * d ≤ k * u 0 16 := by
          rcases (show u 0 15 * d ≤ k * u 0 16 ∨ k * u 0 16 < u 0 15 * d by omega) with y | y
          · exact y
          · exact absurd (Or.inr y) x9
        have y2 := (zc_le he).mpr y
        grind
theorem mt_split {σ u : Nat → Nat → Int} {nr p q r : Nat} {z : Int} (h : MT σ nr p q r z u) : ∃ P : Prop, z = bZ P ∧ FrS σ u ∧ (P → Vx (rwf σ) p q r (u 9 0) (u 9 1) (u 9 2) (u 0 11) ∧ Bd (u 9 0) 1920000000 ∧ Bd (u 9 1) 1920000000 ∧ Bd (u 9 2) 960000 ∧ Bd (u 0 11) 96000000 ∧ KpF (rwf σ) nr (u 9 0) (u 9 1) (u 9 2) (u 0 11)) ∧ (¬ P → ∀ a b k d, Vx (rwf σ) p q r a b k d → ¬ KpF (rwf σ) nr a b k d) := by
  obtain ⟨hF, ⟨h1, h2⟩ | ⟨h1, h2, h3, h4, h5, h6⟩⟩ := h
  · refine ⟨False, h2, hF, fun h => h.elim, fun _ a b k d hv => ?_⟩
    obtain ⟨h3, s, hs, h4, _⟩ := hv
    rw [h1, Int.mul_zero] at h4
    omega
  · refine ⟨_, h6, hF, fun h => ⟨h1, h2, h3, h4, h5, h⟩, fun h a b k d hv => ?_⟩
    obtain ⟨rfl, rfl, rfl, rfl⟩ := hv.uniq h1
    exact h
def SeenF (nr p q r : Nat) (p' q' r' : Nat) : Prop := p' < q' ∧ q' < r' ∧ r' < nr ∧ (p' < p ∨ (p' = p ∧ (q' < q ∨ (q' = q ∧ r' < r))))
/-- nothing but the point and what is kept of lines -/
def FrL (σ u : Nat → Nat → Int) : Prop := (∀ c, c ≠ 0 → c ≠ 9 → c ≠ 10 → u c = σ c) ∧ ∀ j, j ≠ 11 → j ≠ 12 → j ≠ 14 → j ≠ 15 → j ≠ 16 → u 0 j = σ 0 j
theorem FrL.frs {σ τ u : Nat → Nat → Int} (h : FrL σ τ) (hF : FrS τ u) : FrL σ u := ⟨fun c h0 h9 h10 => (hF.1 c h0 h9).trans (h.1 c h0 h9 h10), fun j h1 h2 h3 h4 h5 => (hF.2 j h1).trans (h.2 j h1 h2 h3 h4 h5)⟩
theorem FrL.ts {σ τ u : Nat → Nat → Int} (h : FrL σ τ) (hT : TS τ u) : FrL σ u := by
  obtain ⟨a, b, k, d, e, _, _, _, _, _, _, _, τ1, hT1, hT2⟩ := hT
  have h1 : FrL σ τ1 := by
    rcases hT1 with ⟨_, rfl⟩ | ⟨_, rfl⟩
    · exact ⟨fun c h0 h9 h10 => by simp [tkB, up, h0, h10]; exact h.1 c h0 h9 h10, fun j h1 h2 h3 h4 h5 => by simp [tkB, up, updI, h3]; exact h.2 j h1 h2 h3 h4 h5⟩
    · exact h
  rcases hT2 with ⟨_, rfl⟩ | ⟨_, rfl⟩
  · exact ⟨fun c h0 h9 h10 => by simp [up, h0]; exact h1.1 c h0 h9 h10, fun j g1 g2 g3 g4 g5 => by simp [up, updI, g2, g4, g5]; exact h1.2 j g1 g2 g3 g4 g5⟩
  · exact ⟨fun c h0 h9 h10 => by simp [up, h0]; exact h1.1 c h0 h9 h10, fun j g1 g2 g3 g4 g5 => by simp [up, updI, g2]; exact h1.2 j g1 g2 g3 g4 g5⟩
theorem FrL.rw {σ u : Nat → Nat → Int} (h : FrL σ u) : rwf u = rwf σ := by
  funext r c
  unfold rwf
  rw [h.1 8 (by decide) (by decide) (by decide)]
theorem RBF.same {σ u : Nat → Nat → Int} {nr : Nat} (h : RBF σ nr) (e : rwf u = rwf σ) : RBF u nr := by
  unfold RBF
  rw [e]
  exact h
set_option maxHeartbeats 4000000 in
set_option maxRecDepth 20000 in
theorem fl3_X7 {g : Gx} {K : Kx} {q : Nat → Nat} {σ : Nat → Nat → Int} {nr : Nat} (hn : σ 0 9 = (nr : Int)) (hn16 : nr ≤ 16) (hR : RBF σ nr) {p1 p2 : Nat} (h12 : p1 < p2) (C : CX g K cX7_findLines RX7 4 3 100) (hk : (∀ τ : Nat → Nat → Int, FrL σ τ → LI (rwf σ) nr (SeenF nr p1 p2 nr) τ → GJ g K (WM g q τ) 64 [(0, .ref (q 0)), (1, .int (iZ (p1 : Int))), (2, .int (iZ (p2 : Int))), (3, .int (iZ (nr : Int)))] [])) : ∀ (d p3 : Nat), p2 < p3 → p3 ≤ nr → nr < p3 + d → ∀ τ : Nat → Nat → Int, FrL σ τ → LI (rwf σ) nr (SeenF nr p1 p2 p3) τ → GJ g K (WM g q τ) 36 [(0, .ref (q 0)), (1, .int (iZ (p1 : Int))), (2, .int (iZ (p2 : Int))), (3, .int (iZ (p3 : Int)))] [] := by
  intro d
  induction d with
  | zero => intro p3 h1 h2 h3; omega
  | succ d ih =>
    intro p3 k1 k2 k3 τ hF hI
    refine g_iload_n 3 C rfl dX7_findLines_36 rfl ?_
    refine g_aload_n 0 C rfl dX7_findLines_37 rfl ?_
    refine gf_X7_88 C dX7_findLines_38 ?_
    rw [show τ 0 9 = (nr : Int) from ((hF.2 9 (by decide) (by decide) (by decide) (by decide) (by decide)).trans hn)]
    refine g_icmp_ge 64 C (by unfold I32; omega) (by unfold I32; omega) dX7_findLines_41 (by decide) (fun h1 => ?_) (fun h1 => ?_)
    · obtain rfl : p3 = nr := by omega
      exact hk τ hF hI
    · refine g_aload_n 0 C rfl dX7_findLines_44 rfl ?_
      refine g_iload_n 1 C rfl dX7_findLines_45 rfl ?_
      refine g_iload_n 2 C rfl dX7_findLines_46 rfl ?_
      refine g_iload_n 3 C rfl dX7_findLines_47 rfl ?_
      refine g_callI C (c_X7_meetThree g (σ := τ) (nr := nr) (p1 := p1) (p2 := p2) (p3 := p3) ((hF.2 9 (by decide) (by decide) (by decide) (by decide) (by decide)).trans hn) hn16 (by omega) (by omega) (by omega) (hR.same hF.rw)) gv_X7_118 yd_X7_meetThree ⟨by decide, by decide⟩ 0 7 (WD_get (by decide)) rfl rfl (Nat.le_of_ble_eq_true rfl) dX7_findLines_48 ?_
      rintro z1 u1 hM1
      obtain ⟨P1, rfl, hF1, hT1, hN1⟩ := mt_split hM1
      rw [hF.rw] at hT1 hN1
      refine g_beq 58 C dX7_findLines_51 (by decide) (fun h2 => ?_) (fun h2 => ?_)
      · refine g_iinc (lv' := [(0, .ref (q 0)), (1, .int (iZ (p1 : Int))), (2, .int (iZ (p2 : Int))), (3, .int (iZ ((p3 : Int) + 1)))]) 3 [1, 2, 3, 0] C rfl dX7_findLines_58 (by decide) rfl ?_
        refine g_goto 36 C dX7_findLines_61 (by decide) ?_
        exact ih (p3 + 1) (by omega) (by omega) (by omega) u1 (hF.frs hF1) (li_no hI hF1 (hN1 h2) (fun p' q' r' h9 => by unfold SeenF at *; omega))
      · refine g_aload_n 0 C rfl dX7_findLines_54 rfl ?_
        obtain ⟨hV1, hb0, hb1, hb2, hb3, hK1⟩ := hT1 h2
        refine g_callV C (c_X7_takeSpot g (σ := u1) hV1.1 hb0 hb1 hb2 hb3 (hI.1.frs hF1)) gv_X7_122 yd_X7_takeSpot ⟨by decide, by decide⟩ 0 7 (WD_get (by decide)) rfl rfl (Nat.le_of_ble_eq_true rfl) dX7_findLines_55 ?_
        intro u2 hS2
        refine g_iinc (lv' := [(0, .ref (q 0)), (1, .int (iZ (p1 : Int))), (2, .int (iZ (p2 : Int))), (3, .int (iZ ((p3 : Int) + 1)))]) 3 [1, 2, 3, 0] C rfl dX7_findLines_58 (by decide) rfl ?_
        refine g_goto 36 C dX7_findLines_61 (by decide) ?_
        exact ih (p3 + 1) (by omega) (by omega) (by omega) u2 ((hF.frs hF1).ts hS2) (li_yes hI hF1 hV1 hK1 hS2 (fun p' q' r' h9 => by unfold SeenF at *; omega))
set_option maxHeartbeats 4000000 in
set_option maxRecDepth 20000 in
theorem fl2_X7 {g : Gx} {K : Kx} {q : Nat → Nat} {σ : Nat → Nat → Int} {nr : Nat} (hn : σ 0 9 = (nr : Int)) (hn16 : nr ≤ 16) (hR : RBF σ nr) {p1 : Nat} (C : CX g K cX7_findLines RX7 4 3 100) (hk : (∀ τ : Nat → Nat → Int, FrL σ τ → LI (rwf σ) nr (SeenF nr p1 nr nr) τ → GJ g K (WM g q τ) 70 [(0, .ref (q 0)), (1, .int (iZ (p1 : Int))), (2, .int (iZ (nr : Int)))] [])) : ∀ (d p2 : Nat), p1 < p2 → p2 ≤ nr → nr < p2 + d → ∀ τ : Nat → Nat → Int, FrL σ τ → LI (rwf σ) nr (SeenF nr p1 p2 (p2 + 1)) τ → GJ g K (WM g q τ) 24 [(0, .ref (q 0)), (1, .int (iZ (p1 : Int))), (2, .int (iZ (p2 : Int)))] [] := by
  intro d
  induction d with
  | zero => intro p2 h1 h2 h3; omega
  | succ d ih =>
    intro p2 k1 k2 k3 τ hF hI
    refine g_iload_n 2 C rfl dX7_findLines_24 rfl ?_
    refine g_aload_n 0 C rfl dX7_findLines_25 rfl ?_
    refine gf_X7_88 C dX7_findLines_26 ?_
    rw [show τ 0 9 = (nr : Int) from ((hF.2 9 (by decide) (by decide) (by decide) (by decide) (by decide)).trans hn)]
    refine g_icmp_ge 70 C (by unfold I32; omega) (by unfold I32; omega) dX7_findLines_29 (by decide) (fun h1 => ?_) (fun h1 => ?_)
    · obtain rfl : p2 = nr := by omega
      exact hk τ hF (hI.mono (fun p' q' r' h9 => by unfold SeenF at *; omega))
    · refine g_iload_n 2 C rfl dX7_findLines_32 rfl ?_
      refine g_iconst C dX7_findLines_33 ?_
      refine g_iadd C dX7_findLines_34 ?_
      refine g_iname (fun w2 ew2 => ?_)
      refine g_istore_n (lv' := [(0, .ref (q 0)), (1, .int (iZ (p1 : Int))), (2, .int (iZ (p2 : Int))), (3, .int (iZ w2))]) [1, 2, 3, 0] C dX7_findLines_35 rfl (by decide) rfl ?_
      subst ew2
      refine fl3_X7 hn hn16 hR k1 C (fun τ2 hF2 hI2 => ?_) nr (p2 + 1) (by omega) (by omega) (by omega) τ hF hI
      refine g_iinc (lv' := [(0, .ref (q 0)), (1, .int (iZ (p1 : Int))), (2, .int (iZ ((p2 : Int) + 1))), (3, .int (iZ (nr : Int)))]) 2 [1, 2, 0, 3] C rfl dX7_findLines_64 (by decide) rfl ?_
      refine g_goto 24 C dX7_findLines_67 (by decide) ?_
      refine g_lv [0, 1, 2] rfl ?_
      exact ih (p2 + 1) (by omega) (by omega) (by omega) τ2 hF2 (hI2.mono (fun p' q' r' h9 => by unfold SeenF at *; omega))
set_option maxHeartbeats 4000000 in
set_option maxRecDepth 20000 in
theorem fl1_X7 {g : Gx} {K : Kx} {q : Nat → Nat} {σ : Nat → Nat → Int} {nr : Nat} (hn : σ 0 9 = (nr : Int)) (hn16 : nr ≤ 16) (hR : RBF σ nr) (C : CX g K cX7_findLines RX7 4 3 100) (hk : (∀ τ : Nat → Nat → Int, FrL σ τ → LI (rwf σ) nr (SeenF nr nr nr nr) τ → GJ g K (WM g q τ) 76 [(0, .ref (q 0)), (1, .int (iZ (nr : Int)))] [])) : ∀ (d p1 : Nat), p1 ≤ nr → nr < p1 + d → ∀ τ : Nat → Nat → Int, FrL σ τ → LI (rwf σ) nr (SeenF nr p1 (p1 + 1) (p1 + 2)) τ → GJ g K (WM g q τ) 12 [(0, .ref (q 0)), (1, .int (iZ (p1 : Int)))] [] := by
  intro d
  induction d with
  | zero => intro p1 h1 h2; omega
  | succ d ih =>
    intro p1 k1 k2 τ hF hI
    refine g_iload_n 1 C rfl dX7_findLines_12 rfl ?_
    refine g_aload_n 0 C rfl dX7_findLines_13 rfl ?_
    refine gf_X7_88 C dX7_findLines_14 ?_
    rw [show τ 0 9 = (nr : Int) from ((hF.2 9 (by decide) (by decide) (by decide) (by decide) (by decide)).trans hn)]
    refine g_icmp_ge 76 C (by unfold I32; omega) (by unfold I32; omega) dX7_findLines_17 (by decide) (fun h1 => ?_) (fun h1 => ?_)
    · obtain rfl : p1 = nr := by omega
      exact hk τ hF (hI.mono (fun p' q' r' h9 => by unfold SeenF at *; omega))
    · refine g_iload_n 1 C rfl dX7_findLines_20 rfl ?_
      refine g_iconst C dX7_findLines_21 ?_
      refine g_iadd C dX7_findLines_22 ?_
      refine g_iname (fun w2 ew2 => ?_)
      refine g_istore_n (lv' := [(0, .ref (q 0)), (1, .int (iZ (p1 : Int))), (2, .int (iZ w2))]) [1, 2, 0] C dX7_findLines_23 rfl (by decide) rfl ?_
      subst ew2
      refine fl2_X7 hn hn16 hR C (fun τ2 hF2 hI2 => ?_) nr (p1 + 1) (by omega) (by omega) (by omega) τ hF hI
      refine g_iinc (lv' := [(0, .ref (q 0)), (1, .int (iZ ((p1 : Int) + 1))), (2, .int (iZ (nr : Int)))]) 1 [1, 0, 2] C rfl dX7_findLines_70 (by decide) rfl ?_
      refine g_goto 12 C dX7_findLines_73 (by decide) ?_
      refine g_lv [0, 1] rfl ?_
      exact ih (p1 + 1) (by omega) (by omega) τ2 hF2 (hI2.mono (fun p' q' r' h9 => by unfold SeenF at *; omega))
