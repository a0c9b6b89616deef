/-! lines within edges: what three joints ask of a push, and the least line of a push -/
def XI (x : Nat → Int) (n : Nat) : Prop := x 0 = 0 ∧ ∀ i j, i < j → j ≤ n → x i < x j
/-- a straight line S + T x and its bend m K lie within the edges, all times D -/
def LnP (x lo hi m : Nat → Int) (n : Nat) (S T K D : Int) : Prop := ∀ i, i ≤ n → lo i * D ≤ S + T * x i + m i * K ∧ S + T * x i + m i * K ≤ hi i * D
/-- all triples are content with the push K by D -/
def Tr (x lo hi m : Nat → Int) (n : Nat) (K D : Int) : Prop := ∀ i j r, i < j → j < r → r ≤ n → rs x lo hi i j r * D ≤ bnd x m i j r * K ∧ bnd x m i j r * K ≤ rs x hi lo i j r * D
theorem LnP.tr {x lo hi m : Nat → Int} {n : Nat} {S T K D : Int} (hx : XI x n) (h : LnP x lo hi m n S T K D) : Tr x lo hi m n K D := by
  intro i j r h1 h2 h3
  have a1 := hx.2 i j h1 (by omega)
  have a2 := hx.2 j r h2 h3
  obtain ⟨i1, i2⟩ := h i (by omega)
  obtain ⟨j1, j2⟩ := h j (by omega)
  obtain ⟨r1, r2⟩ := h r h3
  have e : bnd x m i j r * K = (x r - x i) * (S + T * x j + m j * K) - ((x r - x j) * (S + T * x i + m i * K) + (x j - x i) * (S + T * x r + m r * K)) := by unfold bnd rs; grind
  have e1 : rs x lo hi i j r * D = (x r - x i) * (lo j * D) - ((x r - x j) * (hi i * D) + (x j - x i) * (hi r * D)) := by unfold rs; grind
  have e2 : rs x hi lo i j r * D = (x r - x i) * (hi j * D) - ((x r - x j) * (lo i * D) + (x j - x i) * (lo r * D)) := by unfold rs; grind
  have p1 := Int.mul_le_mul_of_nonneg_left j1 (show 0 ≤ x r - x i by omega)
  have p2 := Int.mul_le_mul_of_nonneg_left j2 (show 0 ≤ x r - x i by omega)
  have p3 := Int.mul_le_mul_of_nonneg_left i1 (show 0 ≤ x r - x j by omega)
  have p4 := Int.mul_le_mul_of_nonneg_left i2 (show 0 ≤ x r - x j by omega)
  have p5 := Int.mul_le_mul_of_nonneg_left r1 (show 0 ≤ x j - x i by omega)
  have p6 := Int.mul_le_mul_of_nonneg_left r2 (show 0 ≤ x j - x i by omega)
  rw [e, e1, e2]
  constructor <;> omega
theorem g_cert1 {xp xq xi xj a b c d : Int} (h0 : 0 ≤ xp) (hpq : xp < xq) (hij : xi < xj) (hpj : xp < xj) (H1 : (xj - xi) * a + (xi - xp) * d ≤ c * (xj - xp)) (H2 : (xj - xq) * a + (xq - xp) * d ≤ b * (xj - xp)) : (xq * a - xp * b) * (xj - xi) ≤ (xq - xp) * (xj * c - xi * d) := by
  refine Int.le_of_mul_le_mul_left (a := xj - xp) ?_ (by omega)
  have p1 := Int.mul_nonneg (Int.mul_nonneg (show 0 ≤ xq - xp by omega) (show 0 ≤ xj by omega)) (show 0 ≤ c * (xj - xp) - ((xj - xi) * a + (xi - xp) * d) by omega)
  have p2 := Int.mul_nonneg (Int.mul_nonneg h0 (show 0 ≤ xj - xi by omega)) (show 0 ≤ b * (xj - xp) - ((xj - xq) * a + (xq - xp) * d) by omega)
  have id : (xj - xp) * ((xq - xp) * (xj * c - xi * d)) - (xj - xp) * ((xq * a - xp * b) * (xj - xi)) = (xq - xp) * xj * (c * (xj - xp) - ((xj - xi) * a + (xi - xp) * d)) + xp * (xj - xi) * (b * (xj - xp) - ((xj - xq) * a + (xq - xp) * d)) := by grind
  omega
theorem g_cert2 {xp xq xi xj a b c d : Int} (h0 : 0 ≤ xi) (hpq : xp < xq) (hij : xi < xj) (hiq : xi < xq) (H3 : a * (xq - xi) ≤ (xq - xp) * c + (xp - xi) * b) (H4 : d * (xq - xi) ≤ (xq - xj) * c + (xj - xi) * b) : (xq * a - xp * b) * (xj - xi) ≤ (xq - xp) * (xj * c - xi * d) := by
  refine Int.le_of_mul_le_mul_left (a := xq - xi) ?_ (by omega)
  have p1 := Int.mul_nonneg (Int.mul_nonneg (show 0 ≤ xq by omega) (show 0 ≤ xj - xi by omega)) (show 0 ≤ (xq - xp) * c + (xp - xi) * b - a * (xq - xi) by omega)
  have p2 := Int.mul_nonneg (Int.mul_nonneg h0 (show 0 ≤ xq - xp by omega)) (show 0 ≤ (xq - xj) * c + (xj - xi) * b - d * (xq - xi) by omega)
  have id : (xq - xi) * ((xq - xp) * (xj * c - xi * d)) - (xq - xi) * ((xq * a - xp * b) * (xj - xi)) = xq * (xj - xi) * ((xq - xp) * c + (xp - xi) * b - a * (xq - xi)) + xi * (xq - xp) * ((xq - xj) * c + (xj - xi) * b - d * (xq - xi)) := by grind
  omega
/-- no start that two joints ask for lies above one that two others forbid -/
theorem four_pts {x sl sh : Nat → Int} {n p q i j : Nat} (hx : XI x n) (h : ∀ i j r, i < j → j < r → r ≤ n → rs x sl sh i j r ≤ 0 ∧ 0 ≤ rs x sh sl i j r) (hle : ∀ i, i ≤ n → sl i ≤ sh i) (hp : 1 ≤ p) (hpq : p < q) (hq : q ≤ n) (hi : 1 ≤ i) (hij : i < j) (hj : j ≤ n) :
    (x q * sl p - x p * sh q) * (x j - x i) ≤ (x q - x p) * (x j * sh i - x i * sl j) := by
  have xp := hx.2 0 p (by omega) (by omega)
  have xi := hx.2 0 i (by omega) (by omega)
  rw [hx.1] at xp xi
  have xpq := hx.2 p q hpq hq
  have xij := hx.2 i j hij hj
  have H1 : p ≤ i → (x j - x i) * sl p + (x i - x p) * sl j ≤ sh i * (x j - x p) := by
    intro h1
    by_cases he : p = i
    · subst he
      have h2 := Int.mul_le_mul_of_nonneg_right (hle p (by omega)) (show 0 ≤ x j - x p by omega)
      have : (x j - x p) * sl p + (x p - x p) * sl j = sl p * (x j - x p) := by grind
      omega
    · have h2 := (h p i j (by omega) hij hj).2
      have : sh i * (x j - x p) - ((x j - x i) * sl p + (x i - x p) * sl j) = rs x sh sl p i j := by unfold rs; grind
      omega
  have H2 : q ≤ j → (x j - x q) * sl p + (x q - x p) * sl j ≤ sh q * (x j - x p) := by
    intro h1
    by_cases he : q = j
    · subst he
      have h2 := Int.mul_le_mul_of_nonneg_right (hle q (by omega)) (show 0 ≤ x q - x p by omega)
      have : (x q - x q) * sl p + (x q - x p) * sl q = sl q * (x q - x p) := by grind
      omega
    · have h2 := (h p q j hpq (by omega) hj).2
      have : sh q * (x j - x p) - ((x j - x q) * sl p + (x q - x p) * sl j) = rs x sh sl p q j := by unfold rs; grind
      omega
  have H3 : i ≤ p → sl p * (x q - x i) ≤ (x q - x p) * sh i + (x p - x i) * sh q := by
    intro h1
    by_cases he : i = p
    · subst he
      have h2 := Int.mul_le_mul_of_nonneg_right (hle i (by omega)) (show 0 ≤ x q - x i by omega)
      have : (x q - x i) * sh i + (x i - x i) * sh q = sh i * (x q - x i) := by grind
      omega
    · have h2 := (h i p q (by omega) hpq hq).1
      have : sl p * (x q - x i) - ((x q - x p) * sh i + (x p - x i) * sh q) = rs x sl sh i p q := by unfold rs; grind
      omega
  have H4 : j ≤ q → sl j * (x q - x i) ≤ (x q - x j) * sh i + (x j - x i) * sh q := by
    intro h1
    by_cases he : j = q
    · subst he
      have h2 := Int.mul_le_mul_of_nonneg_right (hle j (by omega)) (show 0 ≤ x j - x i by omega)
      have : (x j - x j) * sh i + (x j - x i) * sh j = sh j * (x j - x i) := by grind
      omega
    · have h2 := (h i j q hij (by omega) hq).1
      have : sl j * (x q - x i) - ((x q - x j) * sh i + (x j - x i) * sh q) = rs x sl sh i j q := by unfold rs; grind
      omega
  by_cases c1 : p ≤ i
  · by_cases c2 : q ≤ j
    · exact g_cert1 (by omega) xpq xij (by have := hx.2 p j (by omega) hj; omega) (H1 c1) (H2 c2)
    · have xiq := hx.2 i q (by omega) hq
      by_cases c3 : sl p * (x q - x i) ≤ (x q - x p) * sh i + (x p - x i) * sh q
      · exact g_cert2 (by omega) xpq xij xiq c3 (H4 (by omega))
      · have hpi : p ≠ i := by
          intro he
          exact c3 (H3 (by omega))
        have xpi := hx.2 p i (by omega) (by omega)
        refine g_cert1 (by omega) xpq xij (by omega) (H1 c1) ?_
        refine Int.le_of_mul_le_mul_left (a := x i - x p) ?_ (by omega)
        have k1 := Int.mul_le_mul_of_nonneg_left (H1 c1) (show 0 ≤ x q - x p by omega)
        have k2 := Int.mul_le_mul_of_nonneg_left (show (x q - x p) * sh i + (x p - x i) * sh q ≤ sl p * (x q - x i) by omega) (show 0 ≤ x j - x p by omega)
        have id : (x i - x p) * (sh q * (x j - x p)) - (x i - x p) * ((x j - x q) * sl p + (x q - x p) * sl j) = ((x q - x p) * (sh i * (x j - x p)) - (x q - x p) * ((x j - x i) * sl p + (x i - x p) * sl j)) + ((x j - x p) * (sl p * (x q - x i)) - (x j - x p) * ((x q - x p) * sh i + (x p - x i) * sh q)) := by grind
        omega
  · by_cases c2 : j ≤ q
    · exact g_cert2 (by omega) xpq xij (by have := hx.2 i q (by omega) hq; omega) (H3 (by omega)) (H4 c2)
    · have xpj := hx.2 p j (by omega) hj
      by_cases c3 : (x j - x i) * sl p + (x i - x p) * sl j ≤ sh i * (x j - x p)
      · exact g_cert1 (by omega) xpq xij xpj c3 (H2 (by omega))
      · have xip := hx.2 i p (by omega) (by omega)
        refine g_cert2 (by omega) xpq xij (by omega) (H3 (by omega)) ?_
        refine Int.le_of_mul_le_mul_left (a := x p - x i) ?_ (by omega)
        have k1 := Int.mul_le_mul_of_nonneg_left (H3 (by omega)) (show 0 ≤ x j - x i by omega)
        have k2 := Int.mul_le_mul_of_nonneg_left (show sh i * (x j - x p) ≤ (x j - x i) * sl p + (x i - x p) * sl j by omega) (show 0 ≤ x q - x i by omega)
        have id : (x p - x i) * ((x q - x j) * sh i + (x j - x i) * sh q) - (x p - x i) * (sl j * (x q - x i)) = ((x j - x i) * ((x q - x p) * sh i + (x p - x i) * sh q) - (x j - x i) * (sl p * (x q - x i))) + ((x q - x i) * ((x j - x i) * sl p + (x i - x p) * sl j) - (x q - x i) * (sh i * (x j - x p))) := by grind
        omega
/-- the least start of a line, S by E -/
def StOK (x sl sh : Nat → Int) (n : Nat) (S E : Int) : Prop := 0 < E ∧ sl 0 * E ≤ S ∧ (∀ i j, 1 ≤ i → i < j → j ≤ n → (x j * sl i - x i * sh j) * E ≤ S * (x j - x i)) ∧ ((S = sl 0 ∧ E = 1) ∨ ∃ p q, (1 ≤ p ∧ p < q ∧ q ≤ n) ∧ S = x q * sl p - x p * sh q ∧ E = x q - x p)
/-- its least slope, T by E F -/
def SlOK (x sl : Nat → Int) (n : Nat) (S E T F : Int) : Prop := 0 < F ∧ (∀ i, 1 ≤ i → i ≤ n → (sl i * E - S) * F ≤ T * x i) ∧ ∃ j, (1 ≤ j ∧ j ≤ n) ∧ T = sl j * E - S ∧ F = x j
theorem line_in {x sl sh : Nat → Int} {n : Nat} {S E T F : Int} (hx : XI x n) (h : ∀ i j r, i < j → j < r → r ≤ n → rs x sl sh i j r ≤ 0 ∧ 0 ≤ rs x sh sl i j r) (hle : ∀ i, i ≤ n → sl i ≤ sh i) (hS : StOK x sl sh n S E) (hT : SlOK x sl n S E T F) :
    ∀ i, i ≤ n → sl i * (E * F) ≤ S * F + T * x i ∧ S * F + T * x i ≤ sh i * (E * F) := by
  obtain ⟨hE, s0, s2, s3⟩ := hS
  obtain ⟨hF, t1, j, ⟨j1, j2⟩, t2, t3⟩ := hT
  have x0 := hx.1
  have xpos : ∀ i, 1 ≤ i → i ≤ n → 0 < x i := fun i h1 h2 => by have := hx.2 0 i (by omega) h2; omega
  intro i hi
  constructor
  · by_cases h0 : i = 0
    · subst h0
      have h1 := Int.mul_le_mul_of_nonneg_right s0 (Int.le_of_lt hF)
      rw [x0]
      have : sl 0 * (E * F) = sl 0 * E * F := by grind
      omega
    · have h1 := t1 i (by omega) hi
      have : (sl i * E - S) * F = sl i * (E * F) - S * F := by grind
      omega
  · by_cases h0 : i = 0
    · subst h0
      rw [x0]
      have key : S ≤ sh 0 * E := by
        rcases s3 with ⟨h1, h2⟩ | ⟨p, q, ⟨p1, pq, q1⟩, h1, h2⟩
        · rw [h1, h2]; have := hle 0 (by omega); omega
        · have h3 := (h 0 p q (by omega) pq q1).1
          have : rs x sl sh 0 p q = S - sh 0 * E := by unfold rs; rw [x0, h1, h2]; grind
          omega
      have h1 := Int.mul_le_mul_of_nonneg_right key (Int.le_of_lt hF)
      have : sh 0 * (E * F) = sh 0 * E * F := by grind
      omega
    · have xi := xpos i (by omega) hi
      have xj := xpos j j1 j2
      rw [t2, t3]
      rcases Nat.lt_trichotomy j i with hji | hji | hji
      · have h1 := s2 j i j1 hji hi
        have : sh i * (E * x j) - (S * x j + (sl j * E - S) * x i) = S * (x i - x j) - (x i * sl j - x j * sh i) * E := by grind
        omega
      · subst hji
        have h1 := Int.mul_le_mul_of_nonneg_right (hle j hi) (Int.le_of_lt (Int.mul_pos hE xj))
        have : S * x j + (sl j * E - S) * x j = sl j * (E * x j) := by grind
        omega
      · rcases s3 with ⟨h1, h2⟩ | ⟨p, q, ⟨p1, pq, q1⟩, h1, h2⟩
        · have h3 := (h 0 i j (by omega) hji j2).2
          have : rs x sh sl 0 i j = sh i * (E * x j) - (S * x j + (sl j * E - S) * x i) := by unfold rs; rw [x0, h1, h2]; grind
          omega
        · have h3 := four_pts hx h hle p1 pq q1 (show 1 ≤ i by omega) hji j2
          rw [← h1, ← h2] at h3
          have : sh i * (E * x j) - (S * x j + (sl j * E - S) * x i) = E * (x j * sh i - x i * sl j) - S * (x j - x i) := by grind
          omega
theorem line_least {x sl sh : Nat → Int} {n : Nat} {S E T F S' T' g : Int} (hx : XI x n) (hn : 1 ≤ n) (hS : StOK x sl sh n S E) (hT : SlOK x sl n S E T F) (h : ∀ i, i ≤ n → sl i * g ≤ S' + T' * x i ∧ S' + T' * x i ≤ sh i * g) :
    S * g ≤ S' * E ∧ (S * g = S' * E → T * g ≤ T' * (E * F)) := by
  obtain ⟨hE, s0, s2, s3⟩ := hS
  obtain ⟨hF, t1, j, ⟨j1, j2⟩, t2, t3⟩ := hT
  have x0 := hx.1
  have xpos : ∀ i, 1 ≤ i → i ≤ n → 0 < x i := fun i h1 h2 => by have := hx.2 0 i (by omega) h2; omega
  constructor
  · rcases s3 with ⟨h1, h2⟩ | ⟨p, q, ⟨p1, pq, q1⟩, h1, h2⟩
    · have h3 := (h 0 (by omega)).1
      rw [x0] at h3
      rw [h1, h2]; omega
    · have h3 := Int.mul_le_mul_of_nonneg_left (h p (by omega)).1 (Int.le_of_lt (xpos q (by omega) q1))
      have h4 := Int.mul_le_mul_of_nonneg_left (h q q1).2 (Int.le_of_lt (xpos p p1 (by omega)))
      rw [h1, h2]
      have : S' * (x q - x p) - (x q * sl p - x p * sh q) * g = (x q * (S' + T' * x p) - x q * (sl p * g)) + (x p * (sh q * g) - x p * (S' + T' * x q)) := by grind
      omega
  · intro he
    have h3 := Int.mul_le_mul_of_nonneg_left (h j j2).1 (Int.le_of_lt hE)
    rw [t2, t3]
    have : T' * (E * x j) - (sl j * E - S) * g = (E * (S' + T' * x j) - E * (sl j * g)) + (S * g - S' * E) := by grind
    omega
theorem fr_trans {a b c d e f : Int} (hb : 0 < b) (hd : 0 < d) (hf : 0 < f) (h1 : a * d ≤ c * b) (h2 : c * f ≤ e * d) : a * f ≤ e * b := by
  refine Int.le_of_mul_le_mul_left (a := d) ?_ hd
  have k1 := Int.mul_le_mul_of_nonneg_right h1 (Int.le_of_lt hf)
  have k2 := Int.mul_le_mul_of_nonneg_right h2 (Int.le_of_lt hb)
  have e1 : d * (a * f) = a * d * f := by grind
  have e2 : d * (e * b) = e * d * b := by grind
  have e3 : c * b * f = c * f * b := by grind
  omega
theorem exmax (P : Nat → Prop) (nu de : Nat → Int) (hde : ∀ e, P e → 0 < de e) (N : Nat) : (∀ e, e < N → ¬ P e) ∨ ∃ e, e < N ∧ P e ∧ ∀ e', e' < N → P e' → nu e' * de e ≤ nu e * de e' := by
  induction N with
  | zero => exact Or.inl (fun e he => absurd he (by omega))
  | succ N ih =>
    by_cases hP : P N
    · rcases ih with ih | ⟨e, e1, e2, e3⟩
      · refine Or.inr ⟨N, by omega, hP, fun e' h1 h2 => ?_⟩
        by_cases he : e' = N
        · subst he; exact Int.le_refl _
        · exact absurd h2 (ih e' (by omega))
      · by_cases hc : nu N * de e ≤ nu e * de N
        · refine Or.inr ⟨e, by omega, e2, fun e' h1 h2 => ?_⟩
          by_cases he : e' = N
          · subst he; exact hc
          · exact e3 e' (by omega) h2
        · refine Or.inr ⟨N, by omega, hP, fun e' h1 h2 => ?_⟩
          by_cases he : e' = N
          · subst he; exact Int.le_refl _
          · exact fr_trans (hde e' h2) (hde e e2) (hde N hP) (e3 e' (by omega) h2) (by omega)
    · rcases ih with ih | ⟨e, e1, e2, e3⟩
      · refine Or.inl (fun e' h1 => ?_)
        by_cases he : e' = N
        · subst he; exact hP
        · exact ih e' (by omega)
      · refine Or.inr ⟨e, by omega, e2, fun e' h1 h2 => ?_⟩
        by_cases he : e' = N
        · subst he; exact absurd h2 hP
        · exact e3 e' (by omega) h2
theorem st_ex {x sl sh : Nat → Int} {n : Nat} (hx : XI x n) (hn : n ≤ 6) : ∃ S E, StOK x sl sh n S E := by
  have hde : ∀ e, (1 ≤ e % 7 ∧ e % 7 < e / 7 ∧ e / 7 ≤ n) → 0 < x (e / 7) - x (e % 7) := fun e he => by have := hx.2 (e % 7) (e / 7) he.2.1 he.2.2; omega
  have dec : ∀ i j : Nat, i < j → j ≤ n → (i + 7 * j) % 7 = i ∧ (i + 7 * j) / 7 = j ∧ i + 7 * j < 49 := fun i j h1 h2 => by omega
  rcases exmax (fun e => 1 ≤ e % 7 ∧ e % 7 < e / 7 ∧ e / 7 ≤ n) (fun e => x (e / 7) * sl (e % 7) - x (e % 7) * sh (e / 7)) (fun e => x (e / 7) - x (e % 7)) hde 49 with h | ⟨e, e1, e2, e3⟩
  · refine ⟨sl 0, 1, by decide, by omega, fun i j h1 h2 h3 => ?_, Or.inl ⟨rfl, rfl⟩⟩
    obtain ⟨d1, d2, d3⟩ := dec i j h2 h3
    exact absurd (show 1 ≤ (i + 7 * j) % 7 ∧ (i + 7 * j) % 7 < (i + 7 * j) / 7 ∧ (i + 7 * j) / 7 ≤ n by rw [d1, d2]; exact ⟨h1, h2, h3⟩) (h _ d3)
  · have e4 : ∀ i j, 1 ≤ i → i < j → j ≤ n → (x j * sl i - x i * sh j) * (x (e / 7) - x (e % 7)) ≤ (x (e / 7) * sl (e % 7) - x (e % 7) * sh (e / 7)) * (x j - x i) := by
      intro i j h1 h2 h3
      obtain ⟨d1, d2, d3⟩ := dec i j h2 h3
      have := e3 _ d3 (show 1 ≤ (i + 7 * j) % 7 ∧ (i + 7 * j) % 7 < (i + 7 * j) / 7 ∧ (i + 7 * j) / 7 ≤ n by rw [d1, d2]; exact ⟨h1, h2, h3⟩)
      simp only [d1, d2] at this
      exact this
    have hE := hde e e2
    by_cases hc : x (e / 7) * sl (e % 7) - x (e % 7) * sh (e / 7) ≤ sl 0 * (x (e / 7) - x (e % 7))
    · refine ⟨sl 0, 1, by decide, by omega, fun i j h1 h2 h3 => ?_, Or.inl ⟨rfl, rfl⟩⟩
      have hij := hx.2 i j h2 h3
      exact fr_trans (show 0 < x j - x i by omega) hE (by decide) (e4 i j h1 h2 h3) (by omega)
    · exact ⟨_, _, hE, by omega, e4, Or.inr ⟨e % 7, e / 7, e2, rfl, rfl⟩⟩
theorem sl_ex {x sl : Nat → Int} {n : Nat} {S E : Int} (hx : XI x n) (hn : 1 ≤ n) : ∃ T F, SlOK x sl n S E T F := by
  have hde : ∀ e, (1 ≤ e ∧ e ≤ n) → 0 < x e := fun e he => by have := hx.2 0 e (by omega) he.2; have := hx.1; omega
  rcases exmax (fun e => 1 ≤ e ∧ e ≤ n) (fun e => sl e * E - S) x hde (n + 1) with h | ⟨e, e1, e2, e3⟩
  · exact absurd (show 1 ≤ n ∧ n ≤ n by omega) (h n (by omega))
  · exact ⟨_, _, hde e e2, fun i h1 h2 => e3 i (by omega) ⟨h1, h2⟩, e, e2, rfl, rfl⟩
theorem LnP_of {x lo hi m : Nat → Int} {n : Nat} {S E T F K D : Int} (hx : XI x n) (h : Tr x lo hi m n K D) (hD : 0 < D) (hle : ∀ i, i ≤ n → lo i ≤ hi i) (hS : StOK x (fun i => lo i * D - m i * K) (fun i => hi i * D - m i * K) n S E) (hT : SlOK x (fun i => lo i * D - m i * K) n S E T F) :
    LnP x lo hi m n (S * F) T (K * (E * F)) (D * (E * F)) := by
  have h1 := line_in hx (fun i j r a b c => by
    have h2 := h i j r a b c
    have e1 : rs x (fun i => lo i * D - m i * K) (fun i => hi i * D - m i * K) i j r = rs x lo hi i j r * D - bnd x m i j r * K := by unfold bnd rs; grind
    have e2 : rs x (fun i => hi i * D - m i * K) (fun i => lo i * D - m i * K) i j r = rs x hi lo i j r * D - bnd x m i j r * K := by unfold bnd rs; grind
    rw [e1, e2]
    omega) (fun i hi9 => by
    have := Int.mul_le_mul_of_nonneg_right (hle i hi9) (Int.le_of_lt hD)
    show lo i * D - m i * K ≤ hi i * D - m i * K
    omega) hS hT
  intro i hi9
  have h2 := h1 i hi9
  have e1 : (lo i * D - m i * K) * (E * F) = lo i * (D * (E * F)) - m i * (K * (E * F)) := by grind
  have e2 : (hi i * D - m i * K) * (E * F) = hi i * (D * (E * F)) - m i * (K * (E * F)) := by grind
  simp only [e1, e2] at h2
  omega
theorem LnP_least {x lo hi m : Nat → Int} {n : Nat} {S E T F K D S' T' g : Int} (hx : XI x n) (hn : 1 ≤ n) (hS : StOK x (fun i => lo i * D - m i * K) (fun i => hi i * D - m i * K) n S E) (hT : SlOK x (fun i => lo i * D - m i * K) n S E T F) (h : LnP x lo hi m n S' T' (K * g) (D * g)) :
    S * F * g ≤ S' * (E * F) ∧ (S * F * g = S' * (E * F) → T * g ≤ T' * (E * F)) := by
  have h1 := line_least (S' := S') (T' := T') (g := g) hx hn hS hT (fun i hi9 => by
    have h2 := h i hi9
    have e1 : (lo i * D - m i * K) * g = lo i * (D * g) - m i * (K * g) := by grind
    have e2 : (hi i * D - m i * K) * g = hi i * (D * g) - m i * (K * g) := by grind
    simp only [e1, e2]
    omega)
  have hF := hT.1
  have e1 : S * F * g = S * g * F := by grind
  have e2 : S' * (E * F) = S' * E * F := by grind
  rw [e1, e2]
  exact ⟨(zc_le hF).mpr h1.1, fun he => h1.2 ((zc_eq hF).mp he)⟩
