/-! rows that bar: two never, three and four as the class tells them -/
theorem RF_row {x l u m : Nat → Int} {n i o : Nat} (hi : i ≤ n) (ho : o < 2) : RF x l u m n (2 * i + o) 0 = (1 - 2 * (o : Int)) * (x n - x i) ∧ RF x l u m n (2 * i + o) 1 = (1 - 2 * (o : Int)) * x i ∧ RF x l u m n (2 * i + o) 2 = (1 - 2 * (o : Int)) * m i ∧ RF x l u m n (2 * i + o) 4 = x n * (if o = 0 then l i else - u i) := by
  rcases (show o = 0 ∨ o = 1 by omega) with rfl | rfl
  · rw [Nat.add_zero, RF_e hi, RF_e hi, RF_e hi, RF_e hi]
    simp [rE]
  · rw [RF_o hi, RF_o hi, RF_o hi, RF_o hi]
    simp only [rO]
    refine ⟨by grind, by grind, by grind, ?_⟩
    rw [if_neg (by decide)]
    grind
theorem RF_psh {x l u m : Nat → Int} {n : Nat} : RF x l u m n (2 * n + 2) 0 = 0 ∧ RF x l u m n (2 * n + 2) 1 = 0 ∧ RF x l u m n (2 * n + 2) 2 = 1 ∧ RF x l u m n (2 * n + 2) 4 = 0 := by
  rw [RF_p, RF_p, RF_p, RF_p]
  simp
theorem sg_or {o : Nat} (ho : o < 2) : (1 - 2 * (o : Int) = 1 ∧ o = 0) ∨ (1 - 2 * (o : Int) = -1 ∧ o = 1) := by
  rcases (show o = 0 ∨ o = 1 by omega) with rfl | rfl
  · exact Or.inl ⟨rfl, rfl⟩
  · exact Or.inr ⟨rfl, rfl⟩
theorem ag2_pos {f : Nat → Nat → Int} {p q : Nat} {s t : Int} (h : Ag2 f p q s t) : ∃ s t : Int, 0 < s ∧ 0 < t ∧ (f p 0 * s + f q 0 * t = 0) ∧ (f p 1 * s + f q 1 * t = 0) ∧ (f p 2 * s + f q 2 * t = 0) ∧ 0 < f p 4 * s + f q 4 * t := by
  unfold Ag2 sm2 at h
  obtain ⟨h | h, a, b, c⟩ := h
  · exact ⟨s, t, h.1, h.2.1, a, b, c, h.2.2⟩
  · exact ⟨-s, -t, by omega, by omega, by grind, by grind, by grind, by have := h.2.2; grind⟩
theorem ag3_pos {f : Nat → Nat → Int} {p q r : Nat} {s t v : Int} (h : Ag3 f p q r s t v) : ∃ s t v : Int, 0 < s ∧ 0 < t ∧ 0 < v ∧ (f p 0 * s + f q 0 * t + f r 0 * v = 0) ∧ (f p 1 * s + f q 1 * t + f r 1 * v = 0) ∧ (f p 2 * s + f q 2 * t + f r 2 * v = 0) ∧ 0 < f p 4 * s + f q 4 * t + f r 4 * v := by
  unfold Ag3 sm3 at h
  obtain ⟨h | h, a, b, c⟩ := h
  · exact ⟨s, t, v, h.1, h.2.1, h.2.2.1, a, b, c, h.2.2.2⟩
  · exact ⟨-s, -t, -v, by omega, by omega, by omega, by grind, by grind, by grind, by have := h.2.2.2; grind⟩
/-- two rows of joints that cancel in the first two columns are those of one joint -/
theorem two_same {x : Nat → Int} {L : Int} {n i j o o' : Nat} {s t : Int} (hx : XI x n) (hL : 0 < L) (hi : i ≤ n) (hj : j ≤ n) (ho : o < 2) (ho' : o' < 2) (hs : 0 < s) (ht : 0 < t) (h0 : (1 - 2 * (o : Int)) * (L - x i) * s + (1 - 2 * (o' : Int)) * (L - x j) * t = 0) (h1 : (1 - 2 * (o : Int)) * x i * s + (1 - 2 * (o' : Int)) * x j * t = 0) : i = j ∧ o + o' = 1 ∧ s = t := by
  have e1 : (1 - 2 * (o : Int)) * s + (1 - 2 * (o' : Int)) * t = 0 := by
    refine (zc_eq hL).mp ?_
    rw [Int.zero_mul]
    grind
  have k : o + o' = 1 ∧ s = t := by
    rcases sg_or ho with ⟨a, b⟩ | ⟨a, b⟩ <;> rcases sg_or ho' with ⟨c, d⟩ | ⟨c, d⟩ <;> rw [a, c] at e1 <;> omega
  obtain ⟨k1, k2⟩ := k
  subst k2
  have e2 : x i = x j := by
    refine (zc_eq hs).mp ?_
    rcases sg_or ho with ⟨a, b⟩ | ⟨a, b⟩ <;> rcases sg_or ho' with ⟨c, d⟩ | ⟨c, d⟩ <;> rw [a, c] at h1 <;> first | omega | grind
  refine ⟨?_, k1, rfl⟩
  rcases Nat.lt_trichotomy i j with h | h | h
  · have := hx.2 i j h hj; omega
  · exact h
  · have := hx.2 j i h hi; omega
theorem no_two {x l u m : Nat → Int} {n : Nat} (hP : PA x l u m n) : ∀ p q, p < q → q < 2 * n + 3 → ¬ Two (RF x l u m n) p q := by
  intro p q hpq hq hT
  have hA : ∃ s t : Int, 0 < s ∧ 0 < t ∧ (RF x l u m n p 0 * s + RF x l u m n q 0 * t = 0) ∧ (RF x l u m n p 1 * s + RF x l u m n q 1 * t = 0) ∧ (RF x l u m n p 2 * s + RF x l u m n q 2 * t = 0) ∧ 0 < RF x l u m n p 4 * s + RF x l u m n q 4 * t := by
    rcases hT with h | h | h <;> exact ag2_pos h
  obtain ⟨s, t, hs, ht, a0, a1, a2, a4⟩ := hA
  obtain ⟨i, o, hi, ho, rfl⟩ : ∃ i o, i ≤ n ∧ o < 2 ∧ p = 2 * i + o := ⟨p / 2, p % 2, by omega, by omega, by omega⟩
  have r1 := RF_row (x := x) (l := l) (u := u) (m := m) hi ho
  by_cases hq2 : q = 2 * n + 2
  · subst hq2
    have r2 := RF_psh (x := x) (l := l) (u := u) (m := m) (n := n)
    rw [r1.1, r2.1] at a0
    rw [r1.2.1, r2.2.1] at a1
    have hL := hP.2.2.2.2
    have z : (1 - 2 * (o : Int)) * s = 0 := by
      refine (zc_eq hL).mp ?_
      rw [Int.zero_mul]
      grind
    rcases sg_or ho with ⟨a, b⟩ | ⟨a, b⟩ <;> rw [a] at z <;> omega
  · obtain ⟨j, o', hj, ho', rfl⟩ : ∃ j o', j ≤ n ∧ o' < 2 ∧ q = 2 * j + o' := ⟨q / 2, q % 2, by omega, by omega, by omega⟩
    have r2 := RF_row (x := x) (l := l) (u := u) (m := m) hj ho'
    rw [r1.1, r2.1] at a0
    rw [r1.2.1, r2.2.1] at a1
    rw [r1.2.2.2, r2.2.2.2] at a4
    obtain ⟨k1, k2, k3⟩ := two_same hP.1 hP.2.2.2.2 hi hj ho ho' hs ht a0 a1
    subst k1 k3
    have o0 : o = 0 := by omega
    have o1 : o' = 1 := by omega
    subst o0 o1
    simp only [if_pos, if_neg (show ¬ (1 = 0) by decide)] at a4
    have h1 := hP.2.2.1 i hi
    have h2 := Int.mul_nonneg (Int.mul_nonneg (Int.le_of_lt hP.2.2.2.2) (show 0 ≤ u i - l i by omega)) (Int.le_of_lt hs)
    have e : x n * l i * s + x n * -u i * s = -(x n * (u i - l i) * s) := by grind
    omega
def T3 (x l u m : Nat → Int) (i j k o : Nat) : Prop := bnd x m i j k = 0 ∧ ((o = 0 ∧ rs x u l i j k < 0) ∨ (o ≠ 0 ∧ 0 < rs x l u i j k))
theorem three_core {e1 e2 e3 s t v x1 x2 x3 : Int} (h1 : e1 = 1 ∨ e1 = -1) (h2 : e2 = 1 ∨ e2 = -1) (h3 : e3 = 1 ∨ e3 = -1) (hs : 0 < s) (ht : 0 < t) (hv : 0 < v) (h12 : x1 < x2) (h23 : x2 < x3) (a : e1 * s + e2 * t + e3 * v = 0) (b : e1 * x1 * s + e2 * x2 * t + e3 * x3 * v = 0) : e2 = -e1 ∧ e3 = e1 ∧ t = s + v ∧ s * (x2 - x1) = v * (x3 - x2) := by
  have id : (e1 * x1 * s + e2 * x2 * t + e3 * x3 * v) - x2 * (e1 * s + e2 * t + e3 * v) = e3 * (v * (x3 - x2)) - e1 * (s * (x2 - x1)) := by grind
  rw [a, b] at id
  have p1 := Int.mul_pos hs (show 0 < x2 - x1 by omega)
  have p2 := Int.mul_pos hv (show 0 < x3 - x2 by omega)
  rcases h1 with rfl | rfl <;> rcases h2 with rfl | rfl <;> rcases h3 with rfl | rfl <;> omega
theorem rs_dep {x a b : Nat → Int} {i j k : Nat} {s t v : Int} (h : t = s + v) (h2 : s * (x j - x i) = v * (x k - x j)) : rs x a b i j k * v = (x j - x i) * (a j * t - b i * s - b k * v) := by
  unfold rs
  have e : (x k - x i) * v = (x j - x i) * t := by rw [h]; grind
  have e3 : (x k - x j) * v = (x j - x i) * s := by grind
  have e4 : ((x k - x i) * a j - ((x k - x j) * b i + (x j - x i) * b k)) * v = ((x k - x i) * v) * a j - (((x k - x j) * v) * b i + (x j - x i) * b k * v) := by grind
  rw [e4, e, e3]
  grind
theorem three_to {x l u m : Nat → Int} {n p q r : Nat} (hP : PA x l u m n) (hpq : p < q) (hqr : q < r) (hr : r < 2 * n + 3) (hT : Three (RF x l u m n) p q r) : ∃ i j k o, (i < j ∧ j < k ∧ k ≤ n ∧ o < 2) ∧ p = 2 * i + o ∧ q = 2 * j + 1 - o ∧ r = 2 * k + o ∧ T3 x l u m i j k o := by
  have hA : ∃ s t v : Int, 0 < s ∧ 0 < t ∧ 0 < v ∧ (RF x l u m n p 0 * s + RF x l u m n q 0 * t + RF x l u m n r 0 * v = 0) ∧ (RF x l u m n p 1 * s + RF x l u m n q 1 * t + RF x l u m n r 1 * v = 0) ∧ (RF x l u m n p 2 * s + RF x l u m n q 2 * t + RF x l u m n r 2 * v = 0) ∧ 0 < RF x l u m n p 4 * s + RF x l u m n q 4 * t + RF x l u m n r 4 * v := by
    rcases hT with h | h | h <;> exact ag3_pos h
  obtain ⟨s, t, v, hs, ht, hv, a0, a1, a2, a4⟩ := hA
  have hL := hP.2.2.2.2
  obtain ⟨i, o, hi, ho, rfl⟩ : ∃ i o, i ≤ n ∧ o < 2 ∧ p = 2 * i + o := ⟨p / 2, p % 2, by omega, by omega, by omega⟩
  obtain ⟨j, o', hj, ho', rfl⟩ : ∃ j o', j ≤ n ∧ o' < 2 ∧ q = 2 * j + o' := ⟨q / 2, q % 2, by omega, by omega, by omega⟩
  have r1 := RF_row (x := x) (l := l) (u := u) (m := m) hi ho
  have r2 := RF_row (x := x) (l := l) (u := u) (m := m) hj ho'
  by_cases hr2 : r = 2 * n + 2
  · exfalso
    subst hr2
    have r3 := RF_psh (x := x) (l := l) (u := u) (m := m) (n := n)
    rw [r1.1, r2.1, r3.1] at a0
    rw [r1.2.1, r2.2.1, r3.2.1] at a1
    rw [r1.2.2.1, r2.2.2.1, r3.2.2.1] at a2
    obtain ⟨k1, k2, k3⟩ := two_same hP.1 hL hi hj ho ho' hs ht (by omega) (by omega)
    subst k1 k3
    have o0 : o = 0 := by omega
    have o1 : o' = 1 := by omega
    subst o0 o1
    have e : (1 - 2 * ((0 : Nat) : Int)) * m i * s + (1 - 2 * ((1 : Nat) : Int)) * m i * s + 1 * v = v := by grind
    omega
  · obtain ⟨k, o2, hk, ho2, rfl⟩ : ∃ k o2, k ≤ n ∧ o2 < 2 ∧ r = 2 * k + o2 := ⟨r / 2, r % 2, by omega, by omega, by omega⟩
    have r3 := RF_row (x := x) (l := l) (u := u) (m := m) hk ho2
    rw [r1.1, r2.1, r3.1] at a0
    rw [r1.2.1, r2.2.1, r3.2.1] at a1
    rw [r1.2.2.1, r2.2.2.1, r3.2.2.1] at a2
    rw [r1.2.2.2, r2.2.2.2, r3.2.2.2] at a4
    have e1 : (1 - 2 * (o : Int)) * s + (1 - 2 * (o' : Int)) * t + (1 - 2 * (o2 : Int)) * v = 0 := by
      refine (zc_eq hL).mp ?_
      rw [Int.zero_mul]
      grind
    have hs1 : (1 - 2 * (o : Int)) = 1 ∨ (1 - 2 * (o : Int)) = -1 := by rcases sg_or ho with h | h <;> omega
    have hs2 : (1 - 2 * (o' : Int)) = 1 ∨ (1 - 2 * (o' : Int)) = -1 := by rcases sg_or ho' with h | h <;> omega
    have hs3 : (1 - 2 * (o2 : Int)) = 1 ∨ (1 - 2 * (o2 : Int)) = -1 := by rcases sg_or ho2 with h | h <;> omega
    have ij : i < j := by
      by_cases hh : i < j
      · exact hh
      · exfalso
        have : i = j := by omega
        subst this
        have o0 : o = 0 := by omega
        have o1 : o' = 1 := by omega
        subst o0 o1
        have ik := hP.1.2 i k (by omega) hk
        have e2 : (1 - 2 * (o2 : Int)) * (v * (x k - x i)) = 0 := by
          have : (1 - 2 * (o2 : Int)) * (v * (x k - x i)) = ((1 - 2 * ((0 : Nat) : Int)) * x i * s + (1 - 2 * ((1 : Nat) : Int)) * x i * t + (1 - 2 * (o2 : Int)) * x k * v) - x i * ((1 - 2 * ((0 : Nat) : Int)) * s + (1 - 2 * ((1 : Nat) : Int)) * t + (1 - 2 * (o2 : Int)) * v) := by grind
          rw [this, a1, e1]; omega
        have := Int.mul_pos hv (show 0 < x k - x i by omega)
        rcases hs3 with h | h <;> rw [h] at e2 <;> omega
    have jk : j < k := by
      by_cases hh : j < k
      · exact hh
      · exfalso
        have : j = k := by omega
        subst this
        have o0 : o' = 0 := by omega
        have o1 : o2 = 1 := by omega
        subst o0 o1
        have xij := hP.1.2 i j ij hj
        have e2 : (1 - 2 * (o : Int)) * (s * (x j - x i)) = 0 := by
          have : (1 - 2 * (o : Int)) * (s * (x j - x i)) = x j * ((1 - 2 * (o : Int)) * s + (1 - 2 * ((0 : Nat) : Int)) * t + (1 - 2 * ((1 : Nat) : Int)) * v) - ((1 - 2 * (o : Int)) * x i * s + (1 - 2 * ((0 : Nat) : Int)) * x j * t + (1 - 2 * ((1 : Nat) : Int)) * x j * v) := by grind
          rw [this, a1, e1]; omega
        have := Int.mul_pos hs (show 0 < x j - x i by omega)
        rcases hs1 with h | h <;> rw [h] at e2 <;> omega
    have xij := hP.1.2 i j ij hj
    have xjk := hP.1.2 j k jk hk
    obtain ⟨c1, c2, c3, c4⟩ := three_core hs1 hs2 hs3 hs ht hv xij xjk e1 a1
    have q1 : o' = 1 - o := by omega
    have q2 : o2 = o := by omega
    subst q2
    refine ⟨i, j, k, o2, ⟨ij, jk, hk, ho⟩, rfl, by omega, rfl, ?_, ?_⟩
    · have h5 := rs_dep (x := x) (a := m) (b := m) c3 c4
      have h6 : m j * t - m i * s - m k * v = 0 := by
        rw [c1] at a2
        have : (1 - 2 * (o2 : Int)) * (m j * t - m i * s - m k * v) = 0 := by
          have : (1 - 2 * (o2 : Int)) * (m j * t - m i * s - m k * v) = -((1 - 2 * (o2 : Int)) * m i * s + -(1 - 2 * (o2 : Int)) * m j * t + (1 - 2 * (o2 : Int)) * m k * v) := by grind
          rw [this, a2]; rfl
        rcases hs1 with h | h <;> rw [h] at this <;> omega
      rw [h6, Int.mul_zero] at h5
      exact (zc_eq hv).mp (by rw [Int.zero_mul]; exact h5)
    · rcases sg_or ho with ⟨h, h0⟩ | ⟨h, h0⟩
      · subst h0
        have o1 : o' = 1 := by omega
        subst o1
        simp only [if_pos, if_neg (show ¬ (1 = 0) by decide)] at a4
        refine Or.inl ⟨rfl, ?_⟩
        have h5 := rs_dep (x := x) (a := u) (b := l) c3 c4
        have h6 : 0 < x n * (l i * s - u j * t + l k * v) := by
          have : x n * (l i * s - u j * t + l k * v) = x n * l i * s + x n * -u j * t + x n * l k * v := by grind
          rw [this]; exact a4
        have h7 : 0 < l i * s - u j * t + l k * v := pos_of (by rw [Int.mul_comm]; exact h6) hL
        have h8 := Int.mul_pos (show 0 < x j - x i by omega) h7
        have h9 : (x j - x i) * (u j * t - l i * s - l k * v) = -((x j - x i) * (l i * s - u j * t + l k * v)) := by grind
        exact (zc_lt hv).mp (by omega)
      · subst h0
        have o1 : o' = 0 := by omega
        subst o1
        simp only [if_pos, if_neg (show ¬ (1 = 0) by decide)] at a4
        refine Or.inr ⟨by decide, ?_⟩
        have h5 := rs_dep (x := x) (a := l) (b := u) c3 c4
        have h6 : 0 < x n * (l j * t - u i * s - u k * v) := by
          have : x n * (l j * t - u i * s - u k * v) = x n * -u i * s + x n * l j * t + x n * -u k * v := by grind
          rw [this]; exact a4
        have h7 : 0 < l j * t - u i * s - u k * v := pos_of (by rw [Int.mul_comm]; exact h6) hL
        have h8 := Int.mul_pos (show 0 < x j - x i by omega) h7
        exact (zc_lt hv).mp (by omega)
theorem three_of {x l u m : Nat → Int} {n i j k o : Nat} (hP : PA x l u m n) (ij : i < j) (jk : j < k) (hk : k ≤ n) (ho : o < 2) (h : T3 x l u m i j k o) : Three (RF x l u m n) (2 * i + o) (2 * j + 1 - o) (2 * k + o) := by
  have hL := hP.2.2.2.2
  have xij := hP.1.2 i j ij (by omega)
  have xjk := hP.1.2 j k jk hk
  have r1 := RF_row (x := x) (l := l) (u := u) (m := m) (show i ≤ n by omega) ho
  have r2 := RF_row (x := x) (l := l) (u := u) (m := m) (show j ≤ n by omega) (show 1 - o < 2 by omega)
  have r3 := RF_row (x := x) (l := l) (u := u) (m := m) hk ho
  rw [show 2 * j + (1 - o) = 2 * j + 1 - o by omega] at r2
  obtain ⟨hb, h⟩ := h
  have p1 := Int.mul_pos hL (show 0 < x k - x j by omega)
  have p2 := Int.mul_pos hL (show 0 < x k - x i by omega)
  have p3 := Int.mul_pos hL (show 0 < x j - x i by omega)
  have hb2 : (x k - x i) * m j - ((x k - x j) * m i + (x j - x i) * m k) = 0 := hb
  refine Or.inr (Or.inr ?_)
  unfold Ag3 sm3 prr
  rw [r1.1, r1.2.1, r1.2.2.1, r1.2.2.2, r2.1, r2.2.1, r2.2.2.1, r2.2.2.2, r3.1, r3.2.1, r3.2.2.1, r3.2.2.2]
  rcases h with ⟨rfl, h⟩ | ⟨h0, h⟩
  · simp only [if_pos, if_neg (show ¬ (1 - 0 = 0) by decide), Nat.sub_zero]
    unfold rs at h
    have q := Int.mul_pos (Int.mul_pos hL hL) (show 0 < -((x k - x i) * u j - ((x k - x j) * l i + (x j - x i) * l k)) by omega)
    refine ⟨Or.inr ⟨by grind, by grind, by grind, by grind⟩, by grind, by grind, ?_⟩
    have : (1 - 2 * ((0 : Nat) : Int)) * m i * ((1 - 2 * ((1 : Nat) : Int)) * (x n - x j) * ((1 - 2 * ((0 : Nat) : Int)) * x k) - (1 - 2 * ((1 : Nat) : Int)) * x j * ((1 - 2 * ((0 : Nat) : Int)) * (x n - x k))) + (1 - 2 * ((1 : Nat) : Int)) * m j * ((1 - 2 * ((0 : Nat) : Int)) * (x n - x k) * ((1 - 2 * ((0 : Nat) : Int)) * x i) - (1 - 2 * ((0 : Nat) : Int)) * x k * ((1 - 2 * ((0 : Nat) : Int)) * (x n - x i))) + (1 - 2 * ((0 : Nat) : Int)) * m k * ((1 - 2 * ((0 : Nat) : Int)) * (x n - x i) * ((1 - 2 * ((1 : Nat) : Int)) * x j) - (1 - 2 * ((0 : Nat) : Int)) * x i * ((1 - 2 * ((1 : Nat) : Int)) * (x n - x j))) = x n * ((x k - x i) * m j - ((x k - x j) * m i + (x j - x i) * m k)) := by grind
    rw [this, hb2]; omega
  · have o1 : o = 1 := by omega
    subst o1
    simp only [if_pos, if_neg (show ¬ (1 = 0) by decide), Nat.sub_self]
    unfold rs at h
    have q := Int.mul_pos (Int.mul_pos hL hL) h
    refine ⟨Or.inr ⟨by grind, by grind, by grind, by grind⟩, by grind, by grind, ?_⟩
    have : (1 - 2 * ((1 : Nat) : Int)) * m i * ((1 - 2 * ((0 : Nat) : Int)) * (x n - x j) * ((1 - 2 * ((1 : Nat) : Int)) * x k) - (1 - 2 * ((0 : Nat) : Int)) * x j * ((1 - 2 * ((1 : Nat) : Int)) * (x n - x k))) + (1 - 2 * ((0 : Nat) : Int)) * m j * ((1 - 2 * ((1 : Nat) : Int)) * (x n - x k) * ((1 - 2 * ((1 : Nat) : Int)) * x i) - (1 - 2 * ((1 : Nat) : Int)) * x k * ((1 - 2 * ((1 : Nat) : Int)) * (x n - x i))) + (1 - 2 * ((1 : Nat) : Int)) * m k * ((1 - 2 * ((1 : Nat) : Int)) * (x n - x i) * ((1 - 2 * ((0 : Nat) : Int)) * x j) - (1 - 2 * ((1 : Nat) : Int)) * x i * ((1 - 2 * ((0 : Nat) : Int)) * (x n - x j))) = -(x n * ((x k - x i) * m j - ((x k - x j) * m i + (x j - x i) * m k))) := by grind
    rw [this, hb2]; omega
