/-- an arch: joints, edges, loads -/
def AR (x l u w : Nat → Int) (n : Nat) : Prop := (2 ≤ n ∧ n ≤ 6) ∧ x 0 = 0 ∧ (∀ i, i < n → x i < x (i + 1)) ∧ x n ≤ 20 ∧ (∀ i, i ≤ n → -20 ≤ l i ∧ l i ≤ u i ∧ u i ≤ 20) ∧ ∀ i, i ≤ n → 0 ≤ w i ∧ w i ≤ 20
theorem AR.lt {x l u w : Nat → Int} {n : Nat} (h : AR x l u w n) : ∀ i j, i < j → j ≤ n → x i < x j := by
  intro i j
  induction j with
  | zero => intro h1; omega
  | succ j ih =>
    intro h1 h2
    have h3 := h.2.2.1 j (by omega)
    by_cases he : i = j
    · subst he; exact h3
    · have := ih (by omega) (by omega); omega
theorem AR.x {x l u w : Nat → Int} {n : Nat} (h : AR x l u w n) : ∀ i, i ≤ n → 0 ≤ x i ∧ x i ≤ 20 := by
  intro i hi
  have h0 := h.2.1
  have hn := h.2.2.2.1
  constructor
  · by_cases he : i = 0
    · subst he; omega
    · have := h.lt 0 i (by omega) hi; omega
  · by_cases he : i = n
    · subst he; exact hn
    · have := h.lt i n (by omega) (by omega); omega
theorem AR.le {x l u w : Nat → Int} {n : Nat} (h : AR x l u w n) {i j : Nat} (hij : i ≤ j) (hj : j ≤ n) : x i ≤ x j := by
  by_cases he : i = j
  · subst he; omega
  · have := h.lt i j (by omega) hj; omega
theorem ms_b {x l u w : Nat → Int} {n : Nat} (h : AR x l u w n) {i : Nat} (hi : i ≤ n) : ∀ N, N + 1 ≤ n → 0 ≤ mosum x w (x n) i (N + 1) ∧ mosum x w (x n) i (N + 1) ≤ 8000 * N := by
  intro N
  induction N with
  | zero => intro _; simp [mosum]
  | succ N ih =>
    intro hN
    obtain ⟨h1, h2⟩ := ih (by omega)
    rw [mosum_s]
    have hw := h.2.2.2.2.2 (N + 1) (by omega)
    have xi := h.x i hi
    have xk := h.x (N + 1) (by omega)
    have xn := h.x n (Nat.le_refl n)
    have xin := h.le hi (Nat.le_refl n)
    have xkn := h.le (show N + 1 ≤ n by omega) (Nat.le_refl n)
    have key : ∃ t : Int, 0 ≤ t ∧ t ≤ 400 ∧ x i * w (N + 1) * (x n - x (N + 1)) - (if N + 1 < i then x n * w (N + 1) * (x i - x (N + 1)) else 0) = w (N + 1) * t := by
      split
      · refine ⟨x (N + 1) * (x n - x i), Int.mul_nonneg xk.1 (by omega), ?_, by grind⟩
        have := Int.mul_le_mul xk.2 (show x n - x i ≤ 20 by omega) (show 0 ≤ x n - x i by omega) (by decide)
        omega
      · refine ⟨x i * (x n - x (N + 1)), Int.mul_nonneg xi.1 (by omega), ?_, by grind⟩
        have := Int.mul_le_mul xi.2 (show x n - x (N + 1) ≤ 20 by omega) (show 0 ≤ x n - x (N + 1) by omega) (by decide)
        omega
    obtain ⟨t, t1, t2, t3⟩ := key
    have q1 := Int.mul_nonneg hw.1 t1
    have q2 := Int.mul_le_mul hw.2 t2 t1 (by decide)
    omega
/-- the moments -/
def mo (x w : Nat → Int) (n i : Nat) : Int := mosum x w (x n) i n
theorem mo_b {x l u w : Nat → Int} {n : Nat} (h : AR x l u w n) {i : Nat} (hi : i ≤ n) : 0 ≤ mo x w n i ∧ mo x w n i ≤ 40000 := by
  have h2 := h.1
  have := ms_b h hi (n - 1) (by omega)
  rw [show n - 1 + 1 = n by omega] at this
  unfold mo
  omega
theorem rs_lin {x f g : Nat → Int} {c : Int} {i j r : Nat} : rs x (fun i => f i + c * g i) (fun i => f i + c * g i) i j r = rs x f f i j r + c * rs x g g i j r := by
  unfold rs; grind
theorem ms_bend {x l u w : Nat → Int} {n : Nat} (h : AR x l u w n) {i j r : Nat} (hij : i < j) (hjr : j < r) (hr : r ≤ n) : ∀ N, N + 1 ≤ n → 0 ≤ rs x (fun i => mosum x w (x n) i (N + 1)) (fun i => mosum x w (x n) i (N + 1)) i j r := by
  intro N
  induction N with
  | zero => intro _; unfold rs; simp [mosum]
  | succ N ih =>
    intro hN
    have ih := ih (by omega)
    have e1 : rs x (fun i => mosum x w (x n) i (N + 1 + 1)) (fun i => mosum x w (x n) i (N + 1 + 1)) i j r = rs x (fun i => mosum x w (x n) i (N + 1) + w (N + 1) * (x i * (x n - x (N + 1)) - (if N + 1 < i then x n * (x i - x (N + 1)) else 0))) (fun i => mosum x w (x n) i (N + 1) + w (N + 1) * (x i * (x n - x (N + 1)) - (if N + 1 < i then x n * (x i - x (N + 1)) else 0))) i j r := by
      have e2 : ∀ i, mosum x w (x n) i (N + 1 + 1) = mosum x w (x n) i (N + 1) + w (N + 1) * (x i * (x n - x (N + 1)) - (if N + 1 < i then x n * (x i - x (N + 1)) else 0)) := by
        intro i
        rw [mosum_s]
        split <;> grind
      simp only [e2]
    rw [e1, rs_lin]
    have hw := h.2.2.2.2.2 (N + 1) (by omega)
    have xn := h.x n (Nat.le_refl n)
    have x1 := h.lt i j hij (by omega)
    have x2 := h.lt j r hjr hr
    have key : 0 ≤ rs x (fun i => x i * (x n - x (N + 1)) - (if N + 1 < i then x n * (x i - x (N + 1)) else 0)) (fun i => x i * (x n - x (N + 1)) - (if N + 1 < i then x n * (x i - x (N + 1)) else 0)) i j r := by
      unfold rs
      show 0 ≤ (x r - x i) * (x j * (x n - x (N + 1)) - (if N + 1 < j then x n * (x j - x (N + 1)) else 0)) - ((x r - x j) * (x i * (x n - x (N + 1)) - (if N + 1 < i then x n * (x i - x (N + 1)) else 0)) + (x j - x i) * (x r * (x n - x (N + 1)) - (if N + 1 < r then x n * (x r - x (N + 1)) else 0)))
      by_cases k1 : N + 1 < i
      · rw [if_pos k1, if_pos (by omega), if_pos (by omega)]
        have : (x r - x i) * (x j * (x n - x (N + 1)) - x n * (x j - x (N + 1))) - ((x r - x j) * (x i * (x n - x (N + 1)) - x n * (x i - x (N + 1))) + (x j - x i) * (x r * (x n - x (N + 1)) - x n * (x r - x (N + 1)))) = 0 := by grind
        omega
      · by_cases k2 : N + 1 < j
        · rw [if_neg k1, if_pos k2, if_pos (by omega)]
          have : (x r - x i) * (x j * (x n - x (N + 1)) - x n * (x j - x (N + 1))) - ((x r - x j) * (x i * (x n - x (N + 1)) - 0) + (x j - x i) * (x r * (x n - x (N + 1)) - x n * (x r - x (N + 1)))) = x n * ((x r - x j) * (x (N + 1) - x i)) := by grind
          rw [this]
          have xk := h.le (show i ≤ N + 1 by omega) (by omega)
          exact Int.mul_nonneg xn.1 (Int.mul_nonneg (by omega) (by omega))
        · by_cases k3 : N + 1 < r
          · rw [if_neg k1, if_neg k2, if_pos k3]
            have : (x r - x i) * (x j * (x n - x (N + 1)) - 0) - ((x r - x j) * (x i * (x n - x (N + 1)) - 0) + (x j - x i) * (x r * (x n - x (N + 1)) - x n * (x r - x (N + 1)))) = x n * ((x j - x i) * (x r - x (N + 1))) := by grind
            rw [this]
            have xk := h.le (show N + 1 ≤ r by omega) hr
            exact Int.mul_nonneg xn.1 (Int.mul_nonneg (by omega) (by omega))
          · rw [if_neg k1, if_neg k2, if_neg k3]
            have : (x r - x i) * (x j * (x n - x (N + 1)) - 0) - ((x r - x j) * (x i * (x n - x (N + 1)) - 0) + (x j - x i) * (x r * (x n - x (N + 1)) - 0)) = 0 := by grind
            omega
    have := Int.mul_nonneg hw.1 key
    omega
theorem mo_bend {x l u w : Nat → Int} {n : Nat} (h : AR x l u w n) {i j r : Nat} (hij : i < j) (hjr : j < r) (hr : r ≤ n) : 0 ≤ rs x (mo x w n) (mo x w n) i j r ∧ rs x (mo x w n) (mo x w n) i j r ≤ 800000 := by
  have h2 := h.1
  have h1 := ms_bend h hij hjr hr (n - 1) (by omega)
  rw [show n - 1 + 1 = n by omega] at h1
  refine ⟨h1, ?_⟩
  unfold rs
  have mi := mo_b h (show i ≤ n by omega)
  have mj := mo_b h (show j ≤ n by omega)
  have mr := mo_b h hr
  have x1 := h.lt i j hij (by omega)
  have x2 := h.lt j r hjr hr
  have xi := h.x i (by omega)
  have xr := h.x r hr
  have q1 := Int.mul_le_mul (show x r - x i ≤ 20 by omega) mj.2 mj.1 (by decide)
  have q2 := Int.mul_nonneg (show 0 ≤ x r - x j by omega) mi.1
  have q3 := Int.mul_nonneg (show 0 ≤ x j - x i by omega) mr.1
  omega
theorem mid_b {x l u w : Nat → Int} {n : Nat} (h : AR x l u w n) {i j r : Nat} (hij : i < j) (hjr : j < r) (hr : r ≤ n) : Bd (rs x l u i j r + rs x u l i j r) 1600 ∧ 0 ≤ rs x u l i j r - rs x l u i j r ∧ rs x u l i j r - rs x l u i j r ≤ 1600 := by
  have x1 := h.lt i j hij (by omega)
  have x2 := h.lt j r hjr hr
  have xi := h.x i (by omega)
  have xr := h.x r hr
  have ei := h.2.2.2.2.1 i (by omega)
  have ej := h.2.2.2.2.1 j (by omega)
  have er := h.2.2.2.2.1 r hr
  have m1 : rs x l u i j r + rs x u l i j r = (x r - x i) * (l j + u j) - ((x r - x j) * (l i + u i) + (x j - x i) * (l r + u r)) := by unfold rs; grind
  have m2 : rs x u l i j r - rs x l u i j r = (x r - x i) * (u j - l j) + ((x r - x j) * (u i - l i) + (x j - x i) * (u r - l r)) := by unfold rs; grind
  rw [m1, m2]
  have b1 := Bd.mul (show Bd (x r - x i) 20 from ⟨by omega, by omega⟩) (show Bd (l j + u j) 40 from ⟨by omega, by omega⟩)
  have c1 := Int.mul_le_mul_of_nonneg_left (show l i + u i ≤ 40 by omega) (show 0 ≤ x r - x j by omega)
  have c2 := Int.mul_le_mul_of_nonneg_left (show -40 ≤ l i + u i by omega) (show 0 ≤ x r - x j by omega)
  have c3 := Int.mul_le_mul_of_nonneg_left (show l r + u r ≤ 40 by omega) (show 0 ≤ x j - x i by omega)
  have c4 := Int.mul_le_mul_of_nonneg_left (show -40 ≤ l r + u r by omega) (show 0 ≤ x j - x i by omega)
  have d0 := Int.mul_nonneg (show 0 ≤ x r - x i by omega) (show 0 ≤ u j - l j by omega)
  have d1 := Int.mul_nonneg (show 0 ≤ x r - x j by omega) (show 0 ≤ u i - l i by omega)
  have d2 := Int.mul_nonneg (show 0 ≤ x j - x i by omega) (show 0 ≤ u r - l r by omega)
  have e0 := Int.mul_le_mul_of_nonneg_left (show u j - l j ≤ 40 by omega) (show 0 ≤ x r - x i by omega)
  have e1 := Int.mul_le_mul_of_nonneg_left (show u i - l i ≤ 40 by omega) (show 0 ≤ x r - x j by omega)
  have e2 := Int.mul_le_mul_of_nonneg_left (show u r - l r ≤ 40 by omega) (show 0 ≤ x j - x i by omega)
  obtain ⟨b2, b3⟩ := b1
  refine ⟨⟨by omega, by omega⟩, by omega, by omega⟩
/-- the arch that the class holds, under the loads of row lc -/
def HS (σ : Nat → Nat → Int) (lc nn : Nat) : Prop := σ 1 0 = (nn : Int) ∧ AR (σ 2) (σ 3) (σ 4) (σ lc) nn ∧ σ 8 0 = 0 ∧ σ 9 0 = 0 ∧ σ 10 0 = 1
theorem HS.hx {σ : Nat → Nat → Int} {lc nn : Nat} (h : HS σ lc nn) : ∀ i, i ≤ nn → 0 ≤ σ 2 i ∧ σ 2 i ≤ 20 := h.2.1.x
theorem HS.hl {σ : Nat → Nat → Int} {lc nn : Nat} (h : HS σ lc nn) : ∀ i, i ≤ nn → -20 ≤ σ 3 i ∧ σ 3 i ≤ σ 4 i ∧ σ 4 i ≤ 20 := h.2.1.2.2.2.2.1
theorem HS.hlB {σ : Nat → Nat → Int} {lc nn : Nat} (h : HS σ lc nn) : ∀ i, i ≤ nn → Bd (σ 3 i) 20 ∧ Bd (σ 4 i) 20 := fun i hi => by
  have := h.hl i hi
  exact ⟨⟨by omega, by omega⟩, ⟨by omega, by omega⟩⟩
theorem HS.hmo {σ : Nat → Nat → Int} {lc nn : Nat} (h : HS σ lc nn) : ∀ i, i ≤ nn → Bd (mosum (σ 2) (σ lc) (σ 2 nn) i nn) 40000 := fun i hi => by
  have := mo_b h.2.1 hi
  unfold mo at this
  exact ⟨by omega, this.2⟩
theorem rs_cong {x a b a' b' : Nat → Int} {i j r : Nat} (h1 : a j = a' j) (h2 : b i = b' i) (h3 : b r = b' r) : rs x a b i j r = rs x a' b' i j r := by unfold rs; rw [h1, h2, h3]
theorem HS.tb {σ u : Nat → Nat → Int} {lc nn : Nat} (h : HS σ lc nn) (hG : GA σ lc nn u) : ∃ cnt : Nat, u 7 1 = (cnt : Int) ∧ TB u cnt := by
  obtain ⟨⟨g1, g2, g3, g4, g5⟩, g6, cn, g7, g8, g9, g10⟩ := hG
  have z8 : u 8 0 = 0 := by rw [g3]; exact h.2.2.1
  have z9 : u 9 0 = 0 := by rw [g4]; exact h.2.2.2.1
  have z10 : u 10 0 = 1 := by rw [g5]; exact h.2.2.2.2
  refine ⟨cn, g8, g7, g8, z8, z9, z10, fun e he => ?_⟩
  by_cases e0 : e = 0
  · subst e0
    rw [z8, z9, z10]
    exact ⟨by decide, ⟨by decide, by decide⟩, by decide, by decide⟩
  · obtain ⟨i, j, r, hs, h1, h2, h3⟩ := g9 e (by omega) he
    have m := mid_b h.2.1 hs.1 hs.2.1 hs.2.2
    have b := mo_bend h.2.1 hs.1 hs.2.1 hs.2.2
    rw [rs_cong (a' := mo (σ 2) (σ lc) nn) (b' := mo (σ 2) (σ lc) nn) (g6 j (by omega)) (g6 i (by omega)) (g6 r (by omega))] at h3
    rw [h1, h2, h3]
    exact ⟨b, m⟩
