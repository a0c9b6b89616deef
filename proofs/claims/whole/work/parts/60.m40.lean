/-! rows in three and four columns: a null direction, or rows with a determinant -/
theorem sort3 {P : Nat → Nat → Nat → Prop} (s1 : ∀ p q r, P p q r → P q p r) (s2 : ∀ p q r, P p q r → P p r q) (e1 : ∀ p r, P p p r) (h : ∀ p q r, p < q → q < r → P p q r) : ∀ p q r, P p q r := by
  have A : ∀ p q r, p < q → P p q r := by
    intro p q r hpq
    rcases Nat.lt_trichotomy q r with h1 | h1 | h1
    · exact h p q r hpq h1
    · subst h1
      exact s1 _ _ _ (s2 _ _ _ (e1 q p))
    · rcases Nat.lt_trichotomy p r with h2 | h2 | h2
      · exact s2 _ _ _ (h p r q h2 h1)
      · subst h2
        exact s2 _ _ _ (e1 p q)
      · exact s2 _ _ _ (s1 _ _ _ (h r p q h2 hpq))
  intro p q r
  rcases Nat.lt_trichotomy p q with h1 | h1 | h1
  · exact A p q r h1
  · subst h1; exact e1 p r
  · exact s1 _ _ _ (A q p r h1)
theorem sort4 {P : Nat → Nat → Nat → Nat → Prop} (s1 : ∀ p q r s, P p q r s → P q p r s) (s2 : ∀ p q r s, P p q r s → P p r q s) (s3 : ∀ p q r s, P p q r s → P p q s r) (e3 : ∀ p q r, P p q r r) (h : ∀ p q r s, p < q → q < r → r < s → P p q r s) : ∀ p q r s, p < q → q < r → P p q r s := by
  intro p q r s h1 h2
  rcases Nat.lt_trichotomy r s with h3 | h3 | h3
  · exact h p q r s h1 h2 h3
  · subst h3; exact e3 p q r
  · rcases Nat.lt_trichotomy q s with h4 | h4 | h4
    · exact s3 _ _ _ _ (h p q s r h1 h4 h3)
    · subst h4; exact s2 _ _ _ _ (e3 p r q)
    · rcases Nat.lt_trichotomy p s with h5 | h5 | h5
      · exact s3 _ _ _ _ (s2 _ _ _ _ (h p s q r h5 h4 h2))
      · subst h5; exact s1 _ _ _ _ (s2 _ _ _ _ (e3 q r p))
      · exact s3 _ _ _ _ (s2 _ _ _ _ (s1 _ _ _ _ (h s p q r h5 h1 h2)))
theorem det3_s1 {f : Nat → Nat → Int} {p q r x y z : Nat} : det3 f q p r x y z = - det3 f p q r x y z := by unfold det3; grind
theorem det3_s2 {f : Nat → Nat → Int} {p q r x y z : Nat} : det3 f p r q x y z = - det3 f p q r x y z := by unfold det3; grind
theorem det3_e1 {f : Nat → Nat → Int} {p r x y z : Nat} : det3 f p p r x y z = 0 := by unfold det3; grind
theorem det4_s3 {f : Nat → Nat → Int} {p q r s w x y z : Nat} : det4 f p q s r w x y z = - det4 f p q r s w x y z := by unfold det4; rw [@det3_s2 f q r s, @det3_s2 f p r s]; grind
theorem det4_s2 {f : Nat → Nat → Int} {p q r s w x y z : Nat} : det4 f p r q s w x y z = - det4 f p q r s w x y z := by unfold det4; rw [@det3_s1 f q r s, @det3_s2 f p q r]; grind
theorem det4_s1 {f : Nat → Nat → Int} {p q r s w x y z : Nat} : det4 f q p r s w x y z = - det4 f p q r s w x y z := by unfold det4; rw [@det3_s1 f p q s, @det3_s1 f p q r]; grind
theorem det4_e3 {f : Nat → Nat → Int} {p q r w x y z : Nat} : det4 f p q r r w x y z = 0 := by
  have h := @det4_s3 f p q r r w x y z
  omega
theorem null3 {f : Nat → Nat → Int} {nr : Nat} {act : Nat → Prop} (h : ∀ p q r, p < q → q < r → r < nr → act p → act q → act r → det3 f p q r 0 1 2 = 0) :
    ∃ w0 w1 w2 : Int, ¬ (w0 = 0 ∧ w1 = 0 ∧ w2 = 0) ∧ ∀ r, r < nr → act r → f r 0 * w0 + f r 1 * w1 + f r 2 * w2 = 0 := by
  have hall : ∀ p q r, (p < nr → q < nr → r < nr → act p → act q → act r → det3 f p q r 0 1 2 = 0) := by
    refine sort3 ?_ ?_ ?_ ?_
    · intro p q r h1 a1 a2 a3 b1 b2 b3
      rw [det3_s1, h1 a2 a1 a3 b2 b1 b3]; rfl
    · intro p q r h1 a1 a2 a3 b1 b2 b3
      rw [det3_s2, h1 a1 a3 a2 b1 b3 b2]; rfl
    · intro p r _ _ _ _ _ _; exact det3_e1
    · intro p q r h1 h2 _ _ a3 b1 b2 b3; exact h p q r h1 h2 a3 b1 b2 b3
  by_cases h2 : ∃ p q, p < nr ∧ q < nr ∧ act p ∧ act q ∧ f p 0 * f q 1 - f p 1 * f q 0 ≠ 0
  · obtain ⟨p, q, p1, q1, p2, q2, hd⟩ := h2
    refine ⟨f p 1 * f q 2 - f p 2 * f q 1, f p 2 * f q 0 - f p 0 * f q 2, f p 0 * f q 1 - f p 1 * f q 0, fun hh => hd hh.2.2, fun r r1 r2 => ?_⟩
    have h3 := hall p q r p1 q1 r1 p2 q2 r2
    unfold det3 at h3
    grind
  · by_cases h1 : ∃ p, p < nr ∧ act p ∧ ¬ (f p 0 = 0 ∧ f p 1 = 0)
    · obtain ⟨p, p1, p2, hp⟩ := h1
      refine ⟨- f p 1, f p 0, 0, fun hh => hp ⟨hh.2.1, by omega⟩, fun r r1 r2 => ?_⟩
      have h3 : ¬ (f p 0 * f r 1 - f p 1 * f r 0 ≠ 0) := fun h4 => h2 ⟨p, r, p1, r1, p2, r2, h4⟩
      have h4 : f p 0 * f r 1 - f p 1 * f r 0 = 0 := Classical.byContradiction h3
      grind
    · refine ⟨1, 0, 0, fun hh => absurd hh.1 (by decide), fun r r1 r2 => ?_⟩
      have h3 : f r 0 = 0 ∧ f r 1 = 0 := Classical.byContradiction fun h4 => h1 ⟨r, r1, r2, h4⟩
      rw [h3.1, h3.2]; omega
theorem null4 {f : Nat → Nat → Int} {nr : Nat} {act : Nat → Prop} (h : ∀ p q r s, p < q → q < r → r < s → s < nr → act p → act q → act r → act s → det4 f p q r s 3 0 1 2 = 0) :
    ∃ w0 w1 w2 w3 : Int, ¬ (w0 = 0 ∧ w1 = 0 ∧ w2 = 0 ∧ w3 = 0) ∧ ∀ r, r < nr → act r → f r 0 * w0 + f r 1 * w1 + f r 2 * w2 + f r 3 * w3 = 0 := by
  by_cases h3 : ∃ p q r, p < q ∧ q < r ∧ r < nr ∧ act p ∧ act q ∧ act r ∧ det3 f p q r 0 1 2 ≠ 0
  · obtain ⟨p, q, r, pq, qr, r1, ap, aq, ar, hd⟩ := h3
    have hall : ∀ p q r s, p < q → q < r → (p < nr → q < nr → r < nr → s < nr → act p → act q → act r → act s → det4 f p q r s 3 0 1 2 = 0) := by
      refine sort4 ?_ ?_ ?_ ?_ ?_
      · intro p q r s h1 a1 a2 a3 a4 b1 b2 b3 b4
        rw [det4_s1, h1 a2 a1 a3 a4 b2 b1 b3 b4]; rfl
      · intro p q r s h1 a1 a2 a3 a4 b1 b2 b3 b4
        rw [det4_s2, h1 a1 a3 a2 a4 b1 b3 b2 b4]; rfl
      · intro p q r s h1 a1 a2 a3 a4 b1 b2 b3 b4
        rw [det4_s3, h1 a1 a2 a4 a3 b1 b2 b4 b3]; rfl
      · intro p q r _ _ _ _ _ _ _ _; exact det4_e3
      · intro p q r s h1 h2 h3 _ _ _ a4 b1 b2 b3 b4; exact h p q r s h1 h2 h3 a4 b1 b2 b3 b4
    refine ⟨det3 f p q r 1 2 3, - det3 f p q r 0 2 3, det3 f p q r 0 1 3, - det3 f p q r 0 1 2, fun hh => hd (by omega), fun s s1 as => ?_⟩
    have h4 := hall p q r s pq qr (by omega) (by omega) r1 s1 ap aq ar as
    unfold det4 det3 at h4
    unfold det3
    grind
  · obtain ⟨w0, w1, w2, hw, hr⟩ := null3 (f := f) (nr := nr) (act := act) (fun p q r h1 h2 h4 a b c => Classical.byContradiction fun h5 => h3 ⟨p, q, r, h1, h2, h4, a, b, c, h5⟩)
    refine ⟨w0, w1, w2, 0, fun hh => hw ⟨hh.1, hh.2.1, hh.2.2.1⟩, fun r r1 ar => ?_⟩
    have := hr r r1 ar
    omega
theorem bnd_all (g : Nat → Int) (nr : Nat) : ∃ N : Int, 0 < N ∧ ∀ r, r < nr → - N ≤ g r ∧ g r ≤ N := by
  induction nr with
  | zero => exact ⟨1, by decide, fun r hr => absurd hr (by omega)⟩
  | succ nr ih =>
    obtain ⟨N, h1, h2⟩ := ih
    refine ⟨N + (if 0 < g nr then g nr else - g nr), by split <;> omega, fun r hr => ?_⟩
    by_cases he : r = nr
    · subst he; split <;> omega
    · have := h2 r (by omega)
      split <;> omega
theorem move_row {F w N s : Int} (hN : 0 < N) (hb : - N ≤ w ∧ w ≤ N) (hs : F ≤ s) (ha : F = s → w = 0) : F * N ≤ s * N + w ∧ F * N ≤ s * N - w := by
  by_cases he : F = s
  · have := ha he
    subst he
    omega
  · have h1 : F + 1 ≤ s := by omega
    have h2 := Int.mul_le_mul_of_nonneg_right h1 (Int.le_of_lt hN)
    rw [Int.add_mul, Int.one_mul] at h2
    omega
/-- where nothing can move, three rows meet -/
theorem vert3 {f : Nat → Nat → Int} {nr : Nat} {a b k d : Int} (hd : 0 < d) (hK : KpF f nr a b k d)
    (rig : ∀ w0 w1 w2 N : Int, 0 < N → KpF f nr (a * N + w0) (b * N + w1) (k * N + w2) (d * N) → KpF f nr (a * N - w0) (b * N - w1) (k * N - w2) (d * N) → w0 = 0 ∧ w1 = 0 ∧ w2 = 0) :
    ∃ p q r a' b' k' d', p < q ∧ q < r ∧ r < nr ∧ Vx f p q r a' b' k' d' ∧ KpF f nr a' b' k' d' ∧ 0 < d' ∧ a' * d = a * d' ∧ b' * d = b * d' ∧ k' * d = k * d' := by
  by_cases h3 : ∃ p q r, p < q ∧ q < r ∧ r < nr ∧ (f p 4 * d = f p 0 * a + f p 1 * b + f p 2 * k) ∧ (f q 4 * d = f q 0 * a + f q 1 * b + f q 2 * k) ∧ (f r 4 * d = f r 0 * a + f r 1 * b + f r 2 * k) ∧ det3 f p q r 0 1 2 ≠ 0
  · obtain ⟨p, q, r, pq, qr, rn, ep, eq, er, hD⟩ := h3
    have c0 : det3 f p q r 4 1 2 * d = a * det3 f p q r 0 1 2 := by
      have : det3 f p q r 4 1 2 * d = (f p 4 * d) * (f q 1 * f r 2 - f q 2 * f r 1) - f p 1 * ((f q 4 * d) * f r 2 - f q 2 * (f r 4 * d)) + f p 2 * ((f q 4 * d) * f r 1 - f q 1 * (f r 4 * d)) := by unfold det3; grind
      rw [this, ep, eq, er]; unfold det3; grind
    have c1 : det3 f p q r 0 4 2 * d = b * det3 f p q r 0 1 2 := by
      have : det3 f p q r 0 4 2 * d = f p 0 * ((f q 4 * d) * f r 2 - f q 2 * (f r 4 * d)) - (f p 4 * d) * (f q 0 * f r 2 - f q 2 * f r 0) + f p 2 * (f q 0 * (f r 4 * d) - (f q 4 * d) * f r 0) := by unfold det3; grind
      rw [this, ep, eq, er]; unfold det3; grind
    have c2 : det3 f p q r 0 1 4 * d = k * det3 f p q r 0 1 2 := by
      have : det3 f p q r 0 1 4 * d = f p 0 * (f q 1 * (f r 4 * d) - (f q 4 * d) * f r 1) - f p 1 * (f q 0 * (f r 4 * d) - (f q 4 * d) * f r 0) + (f p 4 * d) * (f q 0 * f r 1 - f q 1 * f r 0) := by unfold det3; grind
      rw [this, ep, eq, er]; unfold det3; grind
    have fin : ∀ s : Int, (s = 1 ∨ s = -1) → 0 < s * det3 f p q r 0 1 2 → ∃ p q r a' b' k' d', p < q ∧ q < r ∧ r < nr ∧ Vx f p q r a' b' k' d' ∧ KpF f nr a' b' k' d' ∧ 0 < d' ∧ a' * d = a * d' ∧ b' * d = b * d' ∧ k' * d = k * d' := by
      intro s hs h0
      have e0 : s * det3 f p q r 4 1 2 * d = a * (s * det3 f p q r 0 1 2) := by rw [Int.mul_assoc, c0]; grind
      have e1 : s * det3 f p q r 0 4 2 * d = b * (s * det3 f p q r 0 1 2) := by rw [Int.mul_assoc, c1]; grind
      have e2 : s * det3 f p q r 0 1 4 * d = k * (s * det3 f p q r 0 1 2) := by rw [Int.mul_assoc, c2]; grind
      refine ⟨p, q, r, s * det3 f p q r 4 1 2, s * det3 f p q r 0 4 2, s * det3 f p q r 0 1 4, s * det3 f p q r 0 1 2, pq, qr, rn, ⟨h0, s, hs, rfl, rfl, rfl, rfl⟩, ?_, h0, e0, e1, e2⟩
      have h1 := (KpF.scale (f := f) (nr := nr) (a := a) (b := b) (k := k) (d := d) h0).mpr hK
      rw [← e0, ← e1, ← e2, Int.mul_comm d] at h1
      exact (KpF.scale hd).mp h1
    rcases Int.lt_or_gt_of_ne hD with h0 | h0
    · exact fin (-1) (Or.inr rfl) (by omega)
    · exact fin 1 (Or.inl rfl) (by omega)
  · exfalso
    obtain ⟨w0, w1, w2, hw, ho⟩ := null3 (f := f) (nr := nr) (act := fun r => f r 4 * d = f r 0 * a + f r 1 * b + f r 2 * k) (fun p q r h1 h2 h4 a1 a2 a3 => Classical.byContradiction fun h5 => h3 ⟨p, q, r, h1, h2, h4, a1, a2, a3, h5⟩)
    obtain ⟨N, hN, hb⟩ := bnd_all (fun r => f r 0 * w0 + f r 1 * w1 + f r 2 * w2) nr
    refine hw (rig w0 w1 w2 N hN ?_ ?_)
    · intro r hr
      have := (move_row hN (hb r hr) (hK r hr) (ho r hr)).1
      grind
    · intro r hr
      have := (move_row hN (hb r hr) (hK r hr) (ho r hr)).2
      grind
theorem vert4 {f : Nat → Nat → Int} {nr : Nat} {a b k t d : Int} (hd : 0 < d) (hK : KpT f nr a b k t d)
    (rig : ∀ w0 w1 w2 w3 N : Int, 0 < N → KpT f nr (a * N + w0) (b * N + w1) (k * N + w2) (t * N + w3) (d * N) → KpT f nr (a * N - w0) (b * N - w1) (k * N - w2) (t * N - w3) (d * N) → w0 = 0 ∧ w1 = 0 ∧ w2 = 0 ∧ w3 = 0) :
    ∃ p q r s a' b' k' t' d', p < q ∧ q < r ∧ r < s ∧ s < nr ∧ Vx4 f p q r s a' b' k' t' d' ∧ KpT f nr a' b' k' t' d' ∧ 0 < d' ∧ t' * d = t * d' := by
  by_cases h3 : ∃ p q r s, p < q ∧ q < r ∧ r < s ∧ s < nr ∧ (f p 4 * d = f p 0 * a + f p 1 * b + f p 2 * k + f p 3 * t) ∧ (f q 4 * d = f q 0 * a + f q 1 * b + f q 2 * k + f q 3 * t) ∧ (f r 4 * d = f r 0 * a + f r 1 * b + f r 2 * k + f r 3 * t) ∧ (f s 4 * d = f s 0 * a + f s 1 * b + f s 2 * k + f s 3 * t) ∧ det4 f p q r s 3 0 1 2 ≠ 0
  · obtain ⟨p, q, r, s, pq, qr, rs9, sn, ep, eq, er, es, hD⟩ := h3
    have ct : det4 f p q r s 4 0 1 2 * d = t * det4 f p q r s 3 0 1 2 := by
      have : det4 f p q r s 4 0 1 2 * d = (f p 4 * d) * det3 f q r s 0 1 2 - (f q 4 * d) * det3 f p r s 0 1 2 + (f r 4 * d) * det3 f p q s 0 1 2 - (f s 4 * d) * det3 f p q r 0 1 2 := by unfold det4; grind
      rw [this, ep, eq, er, es]; unfold det4 det3; grind
    have d3a : ∀ u v w : Nat, (f u 4 * d = f u 0 * a + f u 1 * b + f u 2 * k + f u 3 * t) → (f v 4 * d = f v 0 * a + f v 1 * b + f v 2 * k + f v 3 * t) → (f w 4 * d = f w 0 * a + f w 1 * b + f w 2 * k + f w 3 * t) → det3 f u v w 4 1 2 * d = a * det3 f u v w 0 1 2 + t * det3 f u v w 3 1 2 := by
      intro u v w eu ev ew
      have : det3 f u v w 4 1 2 * d = (f u 4 * d) * (f v 1 * f w 2 - f v 2 * f w 1) - f u 1 * ((f v 4 * d) * f w 2 - f v 2 * (f w 4 * d)) + f u 2 * ((f v 4 * d) * f w 1 - f v 1 * (f w 4 * d)) := by unfold det3; grind
      rw [this, eu, ev, ew]; unfold det3; grind
    have d3b : ∀ u v w : Nat, (f u 4 * d = f u 0 * a + f u 1 * b + f u 2 * k + f u 3 * t) → (f v 4 * d = f v 0 * a + f v 1 * b + f v 2 * k + f v 3 * t) → (f w 4 * d = f w 0 * a + f w 1 * b + f w 2 * k + f w 3 * t) → det3 f u v w 0 4 2 * d = b * det3 f u v w 0 1 2 + t * det3 f u v w 0 3 2 := by
      intro u v w eu ev ew
      have : det3 f u v w 0 4 2 * d = f u 0 * ((f v 4 * d) * f w 2 - f v 2 * (f w 4 * d)) - (f u 4 * d) * (f v 0 * f w 2 - f v 2 * f w 0) + f u 2 * (f v 0 * (f w 4 * d) - (f v 4 * d) * f w 0) := by unfold det3; grind
      rw [this, eu, ev, ew]; unfold det3; grind
    have d3k : ∀ u v w : Nat, (f u 4 * d = f u 0 * a + f u 1 * b + f u 2 * k + f u 3 * t) → (f v 4 * d = f v 0 * a + f v 1 * b + f v 2 * k + f v 3 * t) → (f w 4 * d = f w 0 * a + f w 1 * b + f w 2 * k + f w 3 * t) → det3 f u v w 0 1 4 * d = k * det3 f u v w 0 1 2 + t * det3 f u v w 0 1 3 := by
      intro u v w eu ev ew
      have : det3 f u v w 0 1 4 * d = f u 0 * (f v 1 * (f w 4 * d) - (f v 4 * d) * f w 1) - f u 1 * (f v 0 * (f w 4 * d) - (f v 4 * d) * f w 0) + (f u 4 * d) * (f v 0 * f w 1 - f v 1 * f w 0) := by unfold det3; grind
      rw [this, eu, ev, ew]; unfold det3; grind
    have z1 : det4 f p q r s 3 3 1 2 = 0 := by unfold det4 det3; grind
    have z2 : det4 f p q r s 3 0 3 2 = 0 := by unfold det4 det3; grind
    have z3 : det4 f p q r s 3 0 1 3 = 0 := by unfold det4 det3; grind
    have ca : det4 f p q r s 3 4 1 2 * d = a * det4 f p q r s 3 0 1 2 := by
      have : det4 f p q r s 3 4 1 2 * d = f p 3 * (det3 f q r s 4 1 2 * d) - f q 3 * (det3 f p r s 4 1 2 * d) + f r 3 * (det3 f p q s 4 1 2 * d) - f s 3 * (det3 f p q r 4 1 2 * d) := by unfold det4; grind
      rw [this, d3a q r s eq er es, d3a p r s ep er es, d3a p q s ep eq es, d3a p q r ep eq er]
      have e2 : a * det4 f p q r s 3 0 1 2 = a * det4 f p q r s 3 0 1 2 + t * det4 f p q r s 3 3 1 2 := by rw [z1]; omega
      rw [e2]; unfold det4; grind
    have cb : det4 f p q r s 3 0 4 2 * d = b * det4 f p q r s 3 0 1 2 := by
      have : det4 f p q r s 3 0 4 2 * d = f p 3 * (det3 f q r s 0 4 2 * d) - f q 3 * (det3 f p r s 0 4 2 * d) + f r 3 * (det3 f p q s 0 4 2 * d) - f s 3 * (det3 f p q r 0 4 2 * d) := by unfold det4; grind
      rw [this, d3b q r s eq er es, d3b p r s ep er es, d3b p q s ep eq es, d3b p q r ep eq er]
      have e2 : b * det4 f p q r s 3 0 1 2 = b * det4 f p q r s 3 0 1 2 + t * det4 f p q r s 3 0 3 2 := by rw [z2]; omega
      rw [e2]; unfold det4; grind
    have ck : det4 f p q r s 3 0 1 4 * d = k * det4 f p q r s 3 0 1 2 := by
      have : det4 f p q r s 3 0 1 4 * d = f p 3 * (det3 f q r s 0 1 4 * d) - f q 3 * (det3 f p r s 0 1 4 * d) + f r 3 * (det3 f p q s 0 1 4 * d) - f s 3 * (det3 f p q r 0 1 4 * d) := by unfold det4; grind
      rw [this, d3k q r s eq er es, d3k p r s ep er es, d3k p q s ep eq es, d3k p q r ep eq er]
      have e2 : k * det4 f p q r s 3 0 1 2 = k * det4 f p q r s 3 0 1 2 + t * det4 f p q r s 3 0 1 3 := by rw [z3]; omega
      rw [e2]; unfold det4; grind
    have fin : ∀ e : Int, (e = 1 ∨ e = -1) → 0 < e * det4 f p q r s 3 0 1 2 → ∃ p q r s a' b' k' t' d', p < q ∧ q < r ∧ r < s ∧ s < nr ∧ Vx4 f p q r s a' b' k' t' d' ∧ KpT f nr a' b' k' t' d' ∧ 0 < d' ∧ t' * d = t * d' := by
      intro e he h0
      have e0 : e * det4 f p q r s 3 4 1 2 * d = a * (e * det4 f p q r s 3 0 1 2) := by rw [Int.mul_assoc, ca]; grind
      have e1 : e * det4 f p q r s 3 0 4 2 * d = b * (e * det4 f p q r s 3 0 1 2) := by rw [Int.mul_assoc, cb]; grind
      have e2 : e * det4 f p q r s 3 0 1 4 * d = k * (e * det4 f p q r s 3 0 1 2) := by rw [Int.mul_assoc, ck]; grind
      have e3 : e * det4 f p q r s 4 0 1 2 * d = t * (e * det4 f p q r s 3 0 1 2) := by rw [Int.mul_assoc, ct]; grind
      refine ⟨p, q, r, s, e * det4 f p q r s 3 4 1 2, e * det4 f p q r s 3 0 4 2, e * det4 f p q r s 3 0 1 4, e * det4 f p q r s 4 0 1 2, e * det4 f p q r s 3 0 1 2, pq, qr, rs9, sn, ⟨h0, e, he, rfl, rfl, rfl, rfl, rfl⟩, ?_, h0, e3⟩
      have h1 := (KpT.scale (f := f) (nr := nr) (a := a) (b := b) (k := k) (t := t) (d := d) h0).mpr hK
      rw [← e0, ← e1, ← e2, ← e3, Int.mul_comm d] at h1
      exact (KpT.scale hd).mp h1
    rcases Int.lt_or_gt_of_ne hD with h0 | h0
    · exact fin (-1) (Or.inr rfl) (by omega)
    · exact fin 1 (Or.inl rfl) (by omega)
  · exfalso
    obtain ⟨w0, w1, w2, w3, hw, ho⟩ := null4 (f := f) (nr := nr) (act := fun r => f r 4 * d = f r 0 * a + f r 1 * b + f r 2 * k + f r 3 * t) (fun p q r s h1 h2 h4 h6 a1 a2 a3 a4 => Classical.byContradiction fun h5 => h3 ⟨p, q, r, s, h1, h2, h4, h6, a1, a2, a3, a4, h5⟩)
    obtain ⟨N, hN, hb⟩ := bnd_all (fun r => f r 0 * w0 + f r 1 * w1 + f r 2 * w2 + f r 3 * w3) nr
    refine hw (rig w0 w1 w2 w3 N hN ?_ ?_)
    · intro r hr
      have := (move_row hN (hb r hr) (hK r hr) (ho r hr)).1
      grind
    · intro r hr
      have := (move_row hN (hb r hr) (hK r hr) (ho r hr)).2
      grind
