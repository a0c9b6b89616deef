/-! four rows that bar -/
def crZ (x m en tu : Nat → Int) (i j k h : Nat) : Int := bnd x m j k h * en i - bnd x m i k h * tu j + bnd x m i j h * en k - bnd x m i j k * tu h
def C4 (x l u m : Nat → Int) (i j k h o : Nat) : Prop := (o = 0 ∧ 0 < crZ x m l u i j k h) ∨ (o ≠ 0 ∧ crZ x m u l i j k h < 0)
theorem pl_0 {x m : Nat → Int} {i j k h : Nat} : bnd x m j k h - bnd x m i k h + bnd x m i j h - bnd x m i j k = 0 := by unfold bnd rs; grind
theorem pl_1 {x m : Nat → Int} {i j k h : Nat} : bnd x m j k h * x i - bnd x m i k h * x j + bnd x m i j h * x k - bnd x m i j k * x h = 0 := by unfold bnd rs; grind
theorem nn_0 {a b c d : Int} (ha : 0 ≤ a) (hb : 0 ≤ b) (hc : 0 < c) (hd : 0 < d) (h : a * c + b * d = 0) : a = 0 ∧ b = 0 := by
  have h1 := Int.mul_nonneg ha (Int.le_of_lt hc)
  have h2 := Int.mul_nonneg hb (Int.le_of_lt hd)
  refine ⟨(zc_eq hc).mp ?_, (zc_eq hd).mp ?_⟩ <;> omega
/-- where four cross and no three of them bar, every three are bent -/
theorem all_pos {x m en tu : Nat → Int} {i j k h : Nat} (x1 : x i < x j) (x2 : x j < x k) (x3 : x k < x h) (b1 : 0 ≤ bnd x m j k h) (b2 : 0 ≤ bnd x m i k h) (b3 : 0 ≤ bnd x m i j h) (b4 : 0 ≤ bnd x m i j k) (hC : 0 < crZ x m en tu i j k h) (n1 : bnd x m i j k = 0 → ¬ rs x tu en i j k < 0) (n2 : bnd x m j k h = 0 → ¬ 0 < rs x en tu j k h) :
    0 < bnd x m j k h ∧ 0 < bnd x m i k h ∧ 0 < bnd x m i j h ∧ 0 < bnd x m i j k := by
  have p0 := pl_0 (x := x) (m := m) (i := i) (j := j) (k := k) (h := h)
  have p1 := pl_1 (x := x) (m := m) (i := i) (j := j) (k := k) (h := h)
  unfold crZ at hC
  generalize bnd x m j k h = B1 at *
  generalize bnd x m i k h = B2 at *
  generalize bnd x m i j h = B3 at *
  generalize bnd x m i j k = B4 at *
  have z : ¬ (B1 = 0 ∧ B2 = 0 ∧ B3 = 0 ∧ B4 = 0) := by
    rintro ⟨rfl, rfl, rfl, rfl⟩
    have : (0 : Int) * en i - 0 * tu j + 0 * en k - 0 * tu h = 0 := by grind
    omega
  have c4 : B4 ≠ 0 := by
    intro h0
    subst h0
    have t : B2 = B1 + B3 := by omega
    have s : B1 * (x j - x i) = B3 * (x k - x j) := by rw [t] at p1; grind
    by_cases h3 : B3 = 0
    · subst h3
      have : B1 = 0 := by
        have e : B1 * (x j - x i) = 0 := by rw [s]; omega
        exact (zc_eq (show 0 < x j - x i by omega)).mp (by omega)
      exact z ⟨this, by omega, rfl, rfl⟩
    · have h5 := rs_dep (x := x) (a := tu) (b := en) t s
      have h7 : 0 < B1 * en i - B2 * tu j + B3 * en k := by
        have : B1 * en i - B2 * tu j + B3 * en k - 0 * tu h = B1 * en i - B2 * tu j + B3 * en k := by grind
        omega
      have h8 := Int.mul_pos (show 0 < x j - x i by omega) h7
      have h9 : (x j - x i) * (tu j * B2 - en i * B1 - en k * B3) = -((x j - x i) * (B1 * en i - B2 * tu j + B3 * en k)) := by grind
      exact n1 rfl ((zc_lt (show 0 < B3 by omega)).mp (by omega))
  have c1 : B1 ≠ 0 := by
    intro h0
    subst h0
    have t : B3 = B2 + B4 := by omega
    have s : B2 * (x k - x j) = B4 * (x h - x k) := by rw [t] at p1; grind
    have h5 := rs_dep (x := x) (a := en) (b := tu) t s
    have h7 : 0 < B3 * en k - B2 * tu j - B4 * tu h := by
      have : 0 * en i - B2 * tu j + B3 * en k - B4 * tu h = B3 * en k - B2 * tu j - B4 * tu h := by grind
      omega
    have h8 := Int.mul_pos (show 0 < x k - x j by omega) h7
    have h9 : (x k - x j) * (en k * B3 - tu j * B2 - tu h * B4) = (x k - x j) * (B3 * en k - B2 * tu j - B4 * tu h) := by grind
    exact n2 rfl ((zc_lt (show 0 < B4 by omega)).mp (by omega))
  have c2 : B2 ≠ 0 := by
    intro h0
    subst h0
    have t : B4 = B1 + B3 := by omega
    have := nn_0 b1 b3 (show 0 < x h - x i by omega) (show 0 < x h - x k by omega) (by rw [t] at p1; grind)
    exact c1 this.1
  have c3 : B3 ≠ 0 := by
    intro h0
    subst h0
    have t : B1 = B2 + B4 := by omega
    have := nn_0 b2 b4 (show 0 < x j - x i by omega) (show 0 < x h - x i by omega) (by rw [t] at p1; grind)
    exact c2 this.1
  omega
theorem det_VVV {x l u m : Nat → Int} {n i j k o o' o2 : Nat} (hi : i ≤ n) (hj : j ≤ n) (hk : k ≤ n) (h1 : o < 2) (h2 : o' < 2) (h3 : o2 < 2) : det3 (RF x l u m n) (2 * i + o) (2 * j + o') (2 * k + o2) 0 1 2 = -((1 - 2 * (o : Int)) * (1 - 2 * (o' : Int)) * (1 - 2 * (o2 : Int)) * (x n * bnd x m i j k)) := by
  have r1 := RF_row (x := x) (l := l) (u := u) (m := m) hi h1
  have r2 := RF_row (x := x) (l := l) (u := u) (m := m) hj h2
  have r3 := RF_row (x := x) (l := l) (u := u) (m := m) hk h3
  unfold det3 bnd rs
  rw [r1.1, r1.2.1, r1.2.2.1, r2.1, r2.2.1, r2.2.2.1, r3.1, r3.2.1, r3.2.2.1]
  generalize (1 - 2 * (o : Int)) = e1
  generalize (1 - 2 * (o' : Int)) = e2
  generalize (1 - 2 * (o2 : Int)) = e3
  grind
theorem det_VVP {x l u m : Nat → Int} {n i j o o' : Nat} (hi : i ≤ n) (hj : j ≤ n) (h1 : o < 2) (h2 : o' < 2) : det3 (RF x l u m n) (2 * i + o) (2 * j + o') (2 * n + 2) 0 1 2 = (1 - 2 * (o : Int)) * (1 - 2 * (o' : Int)) * (x n * (x j - x i)) := by
  have r1 := RF_row (x := x) (l := l) (u := u) (m := m) hi h1
  have r2 := RF_row (x := x) (l := l) (u := u) (m := m) hj h2
  have r3 := RF_psh (x := x) (l := l) (u := u) (m := m) (n := n)
  unfold det3
  rw [r1.1, r1.2.1, r1.2.2.1, r2.1, r2.2.1, r2.2.2.1, r3.1, r3.2.1, r3.2.2.1]
  generalize (1 - 2 * (o : Int)) = e1
  generalize (1 - 2 * (o' : Int)) = e2
  grind
theorem bnd_dup {x m : Nat → Int} {i j : Nat} : bnd x m i i j = 0 ∧ bnd x m i j j = 0 := by unfold bnd rs; constructor <;> grind
theorem signs4 {e1 e2 e3 e4 B1 B2 B3 B4 s t v y : Int} (h1 : e1 = 1 ∨ e1 = -1) (h2 : e2 = 1 ∨ e2 = -1) (h3 : e3 = 1 ∨ e3 = -1) (h4 : e4 = 1 ∨ e4 = -1) (b1 : 0 ≤ B1) (b2 : 0 ≤ B2) (b3 : 0 ≤ B3) (b4 : 0 ≤ B4) (es : s = -(e2 * e3 * e4 * B1)) (et : t = e1 * e3 * e4 * B2) (ev : v = -(e1 * e2 * e4 * B3)) (ey : y = e1 * e2 * e3 * B4) (h : (0 < s ∧ 0 < t ∧ 0 < v ∧ 0 < y) ∨ (s < 0 ∧ t < 0 ∧ v < 0 ∧ y < 0)) : (e2 = -e1 ∧ e3 = e1 ∧ e4 = -e1) ∧ 0 < B1 ∧ 0 < B2 ∧ 0 < B3 ∧ 0 < B4 := by
  rcases h1 with rfl | rfl <;> rcases h2 with rfl | rfl <;> rcases h3 with rfl | rfl <;> rcases h4 with rfl | rfl <;> simp at es et ev ey <;> omega
theorem signs3 {e1 e2 e3 X1 X2 X3 B s t v y : Int} (h1 : e1 = 1 ∨ e1 = -1) (h2 : e2 = 1 ∨ e2 = -1) (h3 : e3 = 1 ∨ e3 = -1) (x1 : 0 ≤ X1) (x2 : 0 ≤ X2) (x3 : 0 ≤ X3) (b : 0 ≤ B) (es : s = e2 * e3 * X1) (et : t = -(e1 * e3 * X2)) (ev : v = e1 * e2 * X3) (ey : y = e1 * e2 * e3 * B) (h : (0 < s ∧ 0 < t ∧ 0 < v ∧ 0 < y) ∨ (s < 0 ∧ t < 0 ∧ v < 0 ∧ y < 0)) : (e1 = 1 ∧ e2 = -1 ∧ e3 = 1) ∧ 0 < X1 ∧ 0 < X2 ∧ 0 < X3 ∧ 0 < B := by
  rcases h1 with rfl | rfl <;> rcases h2 with rfl | rfl <;> rcases h3 with rfl | rfl <;> simp at es et ev ey <;> omega
theorem ag4_s {f : Nat → Nat → Int} {p q r s : Nat} {a b c d : Int} (h : Ag4 f p q r s a b c d) : (0 < a ∧ 0 < b ∧ 0 < c ∧ 0 < d) ∨ (a < 0 ∧ b < 0 ∧ c < 0 ∧ d < 0) := by
  unfold Ag4 at h
  obtain ⟨h | h, _⟩ := h
  · exact Or.inl ⟨h.1, h.2.1, h.2.2.1, h.2.2.2.1⟩
  · exact Or.inr ⟨h.1, h.2.1, h.2.2.1, h.2.2.2.1⟩
theorem sg_e {o : Nat} (ho : o < 2) : (1 - 2 * (o : Int)) = 1 ∨ (1 - 2 * (o : Int)) = -1 := by rcases sg_or ho with h | h <;> omega
theorem sg_4 {o : Nat} (ho : o < 2) {X : Int} : (-((1 - 2 * ((1 - o : Nat) : Int)) * (1 - 2 * (o : Int)) * (1 - 2 * ((1 - o : Nat) : Int)) * X) = (2 * (o : Int) - 1) * X) ∧ (-(-((1 - 2 * (o : Int)) * (1 - 2 * (o : Int)) * (1 - 2 * ((1 - o : Nat) : Int)) * X)) = (2 * (o : Int) - 1) * X) ∧ (-((1 - 2 * (o : Int)) * (1 - 2 * ((1 - o : Nat) : Int)) * (1 - 2 * ((1 - o : Nat) : Int)) * X) = (2 * (o : Int) - 1) * X) ∧ (-(-((1 - 2 * (o : Int)) * (1 - 2 * ((1 - o : Nat) : Int)) * (1 - 2 * (o : Int)) * X)) = (2 * (o : Int) - 1) * X) := by
  rcases (show o = 0 ∨ o = 1 by omega) with rfl | rfl
  · simp
  · simp
/-- the sum of the ends, weighed as the bends ask -/
theorem sm4_cr {x l u m : Nat → Int} {n i j k h o : Nat} (hi : i ≤ n) (hj : j ≤ n) (hk : k ≤ n) (hh : h ≤ n) (ho : o < 2) {a b c d : Int} (ea : a = (2 * (o : Int) - 1) * (x n * bnd x m j k h)) (eb : b = (2 * (o : Int) - 1) * (x n * bnd x m i k h)) (ec : c = (2 * (o : Int) - 1) * (x n * bnd x m i j h)) (ed : d = (2 * (o : Int) - 1) * (x n * bnd x m i j k)) :
    (o = 0 → sm4 (RF x l u m n) (2 * i + o) (2 * j + (1 - o)) (2 * k + o) (2 * h + (1 - o)) 4 a b c d = -(x n * x n * crZ x m l u i j k h)) ∧ (o ≠ 0 → sm4 (RF x l u m n) (2 * i + o) (2 * j + (1 - o)) (2 * k + o) (2 * h + (1 - o)) 4 a b c d = -(x n * x n * crZ x m u l i j k h)) := by
  have r1 := RF_row (x := x) (l := l) (u := u) (m := m) hi ho
  have r2 := RF_row (x := x) (l := l) (u := u) (m := m) hj (show 1 - o < 2 by omega)
  have r3 := RF_row (x := x) (l := l) (u := u) (m := m) hk ho
  have r4 := RF_row (x := x) (l := l) (u := u) (m := m) hh (show 1 - o < 2 by omega)
  unfold sm4 crZ
  rw [r1.2.2.2, r2.2.2.2, r3.2.2.2, r4.2.2.2, ea, eb, ec, ed]
  generalize bnd x m j k h = B1
  generalize bnd x m i k h = B2
  generalize bnd x m i j h = B3
  generalize bnd x m i j k = B4
  constructor
  · rintro rfl
    simp only [if_pos, if_neg (show ¬ (1 - 0 = 0) by decide)]
    grind
  · intro h0
    have o1 : o = 1 := by omega
    subst o1
    simp only [if_pos, if_neg (show ¬ (1 = 0) by decide), Nat.sub_self]
    grind
theorem four_to {x l u m : Nat → Int} {n p q r s : Nat} (hP : PA x l u m n) (hpq : p < q) (hqr : q < r) (hrs : r < s) (hs : s < 2 * n + 3) (hT : Four (RF x l u m n) p q r s) : ∃ i j k o, (i < j ∧ j < k ∧ k ≤ n ∧ o < 2) ∧ p = 2 * i + o ∧ q = 2 * j + 1 - o ∧ r = 2 * k + o ∧ ((∃ h, k < h ∧ h ≤ n ∧ s = 2 * h + 1 - o ∧ C4 x l u m i j k h o) ∨ (o = 0 ∧ s = 2 * n + 2 ∧ rs x u l i j k < 0)) := by
  have hL := hP.2.2.2.2
  unfold Four at hT
  obtain ⟨i, o, hi, ho, rfl⟩ : ∃ i o, i ≤ n ∧ o < 2 ∧ p = 2 * i + o := ⟨p / 2, p % 2, by omega, by omega, by omega⟩
  obtain ⟨j, o', hj, ho', rfl⟩ : ∃ j o', j ≤ n ∧ o' < 2 ∧ q = 2 * j + o' := ⟨q / 2, q % 2, by omega, by omega, by omega⟩
  obtain ⟨k, o2, hk, ho2, rfl⟩ : ∃ k o2, k ≤ n ∧ o2 < 2 ∧ r = 2 * k + o2 := ⟨r / 2, r % 2, by omega, by omega, by omega⟩
  have hsg := ag4_s hT
  have bb : ∀ a b c, a ≤ b → b ≤ c → c ≤ n → 0 ≤ x n * bnd x m a b c := by
    intro a b c h1 h2 h3
    by_cases e1 : a = b
    · subst e1; rw [bnd_dup.1]; omega
    · by_cases e2 : b = c
      · subst e2; rw [bnd_dup.2]; omega
      · exact Int.mul_nonneg (Int.le_of_lt hL) (hP.2.2.2.1 a b c (by omega) (by omega) h3)
  have xx : ∀ a b, a ≤ b → b ≤ n → 0 ≤ x n * (x b - x a) := by
    intro a b h1 h2
    by_cases e1 : a = b
    · subst e1; rw [show x n * (x a - x a) = 0 by grind]; omega
    · have := hP.1.2 a b (by omega) h2
      exact Int.mul_nonneg (Int.le_of_lt hL) (by omega)
  by_cases hs2 : s = 2 * n + 2
  · subst hs2
    rw [det_VVP hj hk ho' ho2, det_VVP hi hk ho ho2, det_VVP hi hj ho ho', det_VVV hi hj hk ho ho' ho2] at hsg
    obtain ⟨⟨q1, q2, q3⟩, y1, y2, y3, y4⟩ := signs3 (sg_e ho) (sg_e ho') (sg_e ho2) (xx j k (by omega) hk) (xx i k (by omega) hk) (xx i j (by omega) hj) (bb i j k (by omega) (by omega) hk) rfl rfl rfl (by omega) hsg
    have o0 : o = 0 := by omega
    have o1 : o' = 1 := by omega
    have o3 : o2 = 0 := by omega
    subst o0 o1 o3
    have ij : i < j := by
      by_cases hh : i < j
      · exact hh
      · exfalso
        have : i = j := by omega
        subst this
        rw [show x n * (x i - x i) = 0 by grind] at y3
        omega
    have jk : j < k := by
      by_cases hh : j < k
      · exact hh
      · exfalso
        have : j = k := by omega
        subst this
        rw [show x n * (x j - x j) = 0 by grind] at y1
        omega
    refine ⟨i, j, k, 0, ⟨ij, jk, hk, by decide⟩, rfl, rfl, rfl, Or.inr ⟨rfl, rfl, ?_⟩⟩
    have h4 : sm4 (RF x l u m n) (2 * i + 0) (2 * j + 1) (2 * k + 0) (2 * n + 2) 4 (det3 (RF x l u m n) (2 * j + 1) (2 * k + 0) (2 * n + 2) 0 1 2) (-(det3 (RF x l u m n) (2 * i + 0) (2 * k + 0) (2 * n + 2) 0 1 2)) (det3 (RF x l u m n) (2 * i + 0) (2 * j + 1) (2 * n + 2) 0 1 2) (-(det3 (RF x l u m n) (2 * i + 0) (2 * j + 1) (2 * k + 0) 0 1 2)) < 0 := by
      unfold Ag4 at hT
      obtain ⟨h | h, _⟩ := hT
      · exfalso
        have h5 := h.1
        rw [det_VVP hj hk ho' ho2] at h5
        have : (1 - 2 * ((1 : Nat) : Int)) * (1 - 2 * ((0 : Nat) : Int)) * (x n * (x k - x j)) = -(x n * (x k - x j)) := by grind
        omega
      · exact h.2.2.2.2
    rw [det_VVP hj hk ho' ho2, det_VVP hi hk ho ho2, det_VVP hi hj ho ho', det_VVV hi hj hk ho ho' ho2] at h4
    have r1 := RF_row (x := x) (l := l) (u := u) (m := m) hi ho
    have r2 := RF_row (x := x) (l := l) (u := u) (m := m) hj ho'
    have r3 := RF_row (x := x) (l := l) (u := u) (m := m) hk ho2
    have r4 := RF_psh (x := x) (l := l) (u := u) (m := m) (n := n)
    unfold sm4 at h4
    rw [r1.2.2.2, r2.2.2.2, r3.2.2.2, r4.2.2.2] at h4
    simp only [if_pos, if_neg (show ¬ (1 = 0) by decide)] at h4
    have e : rs x u l i j k * (x n * x n) < 0 * (x n * x n) := by
      rw [Int.zero_mul]
      unfold rs
      grind
    exact (zc_lt (Int.mul_pos hL hL)).mp e
  · obtain ⟨h, o3, hh, ho3, rfl⟩ : ∃ h o3, h ≤ n ∧ o3 < 2 ∧ s = 2 * h + o3 := ⟨s / 2, s % 2, by omega, by omega, by omega⟩
    rw [det_VVV hj hk hh ho' ho2 ho3, det_VVV hi hk hh ho ho2 ho3, det_VVV hi hj hh ho ho' ho3, det_VVV hi hj hk ho ho' ho2] at hsg
    obtain ⟨⟨q1, q2, q3⟩, y1, y2, y3, y4⟩ := signs4 (sg_e ho) (sg_e ho') (sg_e ho2) (sg_e ho3) (bb j k h (by omega) (by omega) hh) (bb i k h (by omega) (by omega) hh) (bb i j h (by omega) (by omega) hh) (bb i j k (by omega) (by omega) hk) rfl (by omega) rfl (by omega) hsg
    have o1 : o' = 1 - o := by omega
    have o4 : o2 = o := by omega
    have o5 : o3 = 1 - o := by omega
    subst o1 o4 o5
    have ij : i < j := by
      by_cases hh9 : i < j
      · exact hh9
      · exfalso
        have : i = j := by omega
        subst this
        rw [bnd_dup.1] at y3
        omega
    have jk : j < k := by
      by_cases hh9 : j < k
      · exact hh9
      · exfalso
        have : j = k := by omega
        subst this
        rw [bnd_dup.2] at y4
        omega
    have kh : k < h := by
      by_cases hh9 : k < h
      · exact hh9
      · exfalso
        have : k = h := by omega
        subst this
        rw [bnd_dup.2] at y1
        omega
    refine ⟨i, j, k, o2, ⟨ij, jk, hk, ho⟩, rfl, by omega, rfl, Or.inl ⟨h, kh, hh, by omega, ?_⟩⟩
    have sc := sm4_cr (l := l) (u := u) hi hj hk hh ho (a := det3 (RF x l u m n) (2 * j + (1 - o2)) (2 * k + o2) (2 * h + (1 - o2)) 0 1 2) (b := -(det3 (RF x l u m n) (2 * i + o2) (2 * k + o2) (2 * h + (1 - o2)) 0 1 2)) (c := det3 (RF x l u m n) (2 * i + o2) (2 * j + (1 - o2)) (2 * h + (1 - o2)) 0 1 2) (d := -(det3 (RF x l u m n) (2 * i + o2) (2 * j + (1 - o2)) (2 * k + o2) 0 1 2))
      (by rw [det_VVV hj hk hh ho' ho2 ho3]; exact (sg_4 ho).1)
      (by rw [det_VVV hi hk hh ho ho2 ho3]; exact (sg_4 ho).2.1)
      (by rw [det_VVV hi hj hh ho ho' ho3]; exact (sg_4 ho).2.2.1)
      (by rw [det_VVV hi hj hk ho ho' ho2]; exact (sg_4 ho).2.2.2)
    have d1 := det_VVV (x := x) (l := l) (u := u) (m := m) hj hk hh ho' ho2 ho3
    unfold Ag4 at hT
    have hLL := Int.mul_pos hL hL
    rcases sg_or ho with ⟨a, o0⟩ | ⟨a, o0⟩
    · subst o0
      have d2 : det3 (RF x l u m n) (2 * j + (1 - 0)) (2 * k + 0) (2 * h + (1 - 0)) 0 1 2 = -(x n * bnd x m j k h) := by rw [d1]; grind
      obtain ⟨h9 | h9, _⟩ := hT
      · exfalso
        have := h9.1
        omega
      · have h4 := h9.2.2.2.2
        rw [sc.1 rfl] at h4
        exact Or.inl ⟨rfl, pos_of (b := x n * x n) (by rw [Int.mul_comm]; omega) hLL⟩
    · subst o0
      have d2 : det3 (RF x l u m n) (2 * j + (1 - 1)) (2 * k + 1) (2 * h + (1 - 1)) 0 1 2 = x n * bnd x m j k h := by rw [d1]; grind
      obtain ⟨h9 | h9, _⟩ := hT
      · have h4 := h9.2.2.2.2
        rw [sc.2 (by decide)] at h4
        refine Or.inr ⟨by decide, ?_⟩
        have : 0 < -(crZ x m u l i j k h) := pos_of (b := x n * x n) (by rw [Int.neg_mul, Int.mul_comm]; omega) hLL
        omega
      · exfalso
        have := h9.1
        omega
