/-! what triples leave of pushes; the rows of an arch; the best line is where three rows meet -/
def HPg (x lo hi m : Nat → Int) (n : Nat) : Prop := (∀ i j r, i < j → j < r → r ≤ n → bnd x m i j r = 0 → rs x lo hi i j r ≤ 0 ∧ 0 ≤ rs x hi lo i j r) ∧ (∀ i j r, i < j → j < r → r ≤ n → 0 < bnd x m i j r → 0 ≤ rs x hi lo i j r) ∧ ∀ i j r i' j' r', i < j → j < r → r ≤ n → 0 < bnd x m i j r → i' < j' → j' < r' → r' ≤ n → 0 < bnd x m i' j' r' → rs x lo hi i j r * bnd x m i' j' r' ≤ rs x hi lo i' j' r' * bnd x m i j r
theorem Tr.hp {x lo hi m : Nat → Int} {n : Nat} {K D : Int} (hD : 0 < D) (hK : 0 ≤ K) (h : Tr x lo hi m n K D) : HPg x lo hi m n := by
  refine ⟨fun i j r h1 h2 h3 h0 => ?_, fun i j r h1 h2 h3 h0 => ?_, fun i j r i' j' r' h1 h2 h3 h0 g1 g2 g3 g0 => ?_⟩
  · have h4 := h i j r h1 h2 h3
    rw [h0] at h4
    exact ⟨(zc_le hD).mp (by omega), (zc_le hD).mp (by omega)⟩
  · have h4 := h i j r h1 h2 h3
    have h5 := Int.mul_nonneg (Int.le_of_lt h0) hK
    exact (zc_le hD).mp (by omega)
  · refine Int.le_of_mul_le_mul_left (a := D) ?_ hD
    have k1 := Int.mul_le_mul_of_nonneg_right (h i j r h1 h2 h3).1 (Int.le_of_lt g0)
    have k2 := Int.mul_le_mul_of_nonneg_right (h i' j' r' g1 g2 g3).2 (Int.le_of_lt h0)
    have e1 : D * (rs x lo hi i j r * bnd x m i' j' r') = rs x lo hi i j r * D * bnd x m i' j' r' := by grind
    have e2 : D * (rs x hi lo i' j' r' * bnd x m i j r) = rs x hi lo i' j' r' * D * bnd x m i j r := by grind
    have e3 : bnd x m i j r * K * bnd x m i' j' r' = bnd x m i' j' r' * K * bnd x m i j r := by grind
    omega
theorem HPg.tr {x lo hi m : Nat → Int} {n : Nat} {K D : Int} (hb : ∀ i j r, i < j → j < r → r ≤ n → 0 ≤ bnd x m i j r) (h : HPg x lo hi m n) (hD : 0 < D) (h1 : ∀ i j r, i < j → j < r → r ≤ n → 0 < bnd x m i j r → rs x lo hi i j r * D ≤ bnd x m i j r * K) (h2 : ∀ i j r, i < j → j < r → r ≤ n → 0 < bnd x m i j r → bnd x m i j r * K ≤ rs x hi lo i j r * D) : Tr x lo hi m n K D := by
  intro i j r a b c
  by_cases h0 : bnd x m i j r = 0
  · have h3 := h.1 i j r a b c h0
    rw [h0, Int.zero_mul]
    have k1 := Int.mul_le_mul_of_nonneg_right h3.1 (Int.le_of_lt hD)
    have k2 := Int.mul_nonneg h3.2 (Int.le_of_lt hD)
    omega
  · have := hb i j r a b c
    exact ⟨h1 i j r a b c (by omega), h2 i j r a b c (by omega)⟩
theorem kmin_ex {x lo hi m : Nat → Int} {n : Nat} (hn : n ≤ 6) (hb : ∀ i j r, i < j → j < r → r ≤ n → 0 ≤ bnd x m i j r) (h : HPg x lo hi m n) : ∃ K D, 0 < D ∧ 0 ≤ K ∧ Tr x lo hi m n K D ∧ ∀ K' D', 0 < D' → 0 ≤ K' → Tr x lo hi m n K' D' → K * D' ≤ K' * D := by
  have dec : ∀ i j r : Nat, i < j → j < r → r ≤ n → (i + 7 * j + 49 * r) % 7 = i ∧ (i + 7 * j + 49 * r) / 7 % 7 = j ∧ (i + 7 * j + 49 * r) / 49 = r ∧ i + 7 * j + 49 * r < 343 := fun i j r h1 h2 h3 => by omega
  have zero : (∀ i j r, i < j → j < r → r ≤ n → 0 < bnd x m i j r → rs x lo hi i j r ≤ 0) → ∃ K D, 0 < D ∧ 0 ≤ K ∧ Tr x lo hi m n K D ∧ ∀ K' D', 0 < D' → 0 ≤ K' → Tr x lo hi m n K' D' → K * D' ≤ K' * D := by
    intro hz
    refine ⟨0, 1, by decide, by decide, HPg.tr hb h (by decide) (fun i j r a b c d => by have := hz i j r a b c d; omega) (fun i j r a b c d => by have := h.2.1 i j r a b c d; omega), fun K' D' _ h2 _ => by omega⟩
  rcases exmax (fun e => (e % 7 < e / 7 % 7 ∧ e / 7 % 7 < e / 49 ∧ e / 49 ≤ n) ∧ 0 < bnd x m (e % 7) (e / 7 % 7) (e / 49)) (fun e => rs x lo hi (e % 7) (e / 7 % 7) (e / 49)) (fun e => bnd x m (e % 7) (e / 7 % 7) (e / 49)) (fun e he => he.2) 343 with h0 | ⟨e, e1, e2, e3⟩
  · refine zero (fun i j r a b c d => ?_)
    obtain ⟨d1, d2, d3, d4⟩ := dec i j r a b c
    refine absurd ?_ (h0 _ d4)
    simp only [d1, d2, d3]
    exact ⟨⟨a, b, c⟩, d⟩
  · have e4 : ∀ i j r, i < j → j < r → r ≤ n → 0 < bnd x m i j r → rs x lo hi i j r * bnd x m (e % 7) (e / 7 % 7) (e / 49) ≤ rs x lo hi (e % 7) (e / 7 % 7) (e / 49) * bnd x m i j r := by
      intro i j r a b c d
      obtain ⟨d1, d2, d3, d4⟩ := dec i j r a b c
      have := e3 _ d4
      simp only [d1, d2, d3] at this
      exact this ⟨⟨a, b, c⟩, d⟩
    obtain ⟨⟨a0, b0, c0⟩, d0⟩ := e2
    generalize e % 7 = i0 at *
    generalize e / 7 % 7 = j0 at *
    generalize e / 49 = r0 at *
    by_cases hc : rs x lo hi i0 j0 r0 ≤ 0
    · refine zero (fun i j r a b c d => ?_)
      have h1 := e4 i j r a b c d
      have h2 := Int.mul_le_mul_of_nonneg_right hc (Int.le_of_lt d)
      exact (zc_le d0).mp (by omega)
    · refine ⟨rs x lo hi i0 j0 r0, bnd x m i0 j0 r0, d0, by omega, HPg.tr hb h d0 (fun i j r a b c d => by have := e4 i j r a b c d; rw [Int.mul_comm (bnd x m i j r)]; exact this) (fun i j r a b c d => by have := h.2.2 i0 j0 r0 i j r a0 b0 c0 d0 a b c d; rw [Int.mul_comm (bnd x m i j r)]; exact this), fun K' D' _ _ h3 => ?_⟩
      have := (h3 i0 j0 r0 a0 b0 c0).1
      rw [Int.mul_comm K']
      exact this
/-- the edges, thinned by a by b, times 2 b -/
def tlo (l u : Nat → Int) (a b : Int) (i : Nat) : Int := (l i + u i) * b - (u i - l i) * a
def thi (l u : Nat → Int) (a b : Int) (i : Nat) : Int := (l i + u i) * b + (u i - l i) * a
theorem rs_tlo {x l u : Nat → Int} {a b : Int} {i j r : Nat} : rs x (tlo l u a b) (thi l u a b) i j r = mid x l u i j r * b - rom x l u i j r * a ∧ rs x (thi l u a b) (tlo l u a b) i j r = mid x l u i j r * b + rom x l u i j r * a := by
  unfold mid rom rs tlo thi
  constructor <;> grind
theorem absZ_le {z b r : Int} (hb : 0 ≤ b) : absZ z * b ≤ r ↔ z * b ≤ r ∧ -(z * b) ≤ r := by
  unfold absZ
  split
  · have := Int.mul_nonneg (show 0 ≤ z by omega) hb
    omega
  · have := Int.mul_nonneg (show 0 ≤ -z by omega) hb
    rw [Int.neg_mul] at *
    omega
theorem hp_iff {x l u m : Nat → Int} {n : Nat} {a b : Int} (hb : 0 < b) : HoldP x l u m n a b ↔ HPg x (tlo l u a b) (thi l u a b) m n := by
  unfold HoldP ST BN HPg
  constructor
  · intro h
    refine ⟨fun i j r h1 h2 h3 h0 => ?_, fun i j r h1 h2 h3 h0 => ?_, fun i j r i' j' r' h1 h2 h3 h0 g1 g2 g3 g0 => ?_⟩
    · have := (absZ_le (Int.le_of_lt hb)).mp (h.1 i j r h1 h2 h3 h0)
      rw [rs_tlo.1, rs_tlo.2]; omega
    · rw [rs_tlo.2]; exact h.2.1 i j r h1 h2 h3 h0
    · rw [rs_tlo.1, rs_tlo.2]; exact h.2.2 i j r i' j' r' h1 h2 h3 h0 g1 g2 g3 g0
  · intro h
    refine ⟨fun i j r h1 h2 h3 h0 => ?_, fun i j r h1 h2 h3 h0 => ?_, fun i j r i' j' r' h1 h2 h3 h0 g1 g2 g3 g0 => ?_⟩
    · have := h.1 i j r h1 h2 h3 h0
      rw [rs_tlo.1, rs_tlo.2] at this
      exact (absZ_le (Int.le_of_lt hb)).mpr (by omega)
    · have := h.2.1 i j r h1 h2 h3 h0
      rw [rs_tlo.2] at this; exact this
    · have := h.2.2 i j r i' j' r' h1 h2 h3 h0 g1 g2 g3 g0
      rw [rs_tlo.1, rs_tlo.2] at this; exact this
theorem hp_11 {x l u m : Nat → Int} {n : Nat} : HoldP x l u m n 1 1 ↔ HPg x l u m n := by
  rw [hp_iff (by decide)]
  have e1 : ∀ i j r, rs x (tlo l u 1 1) (thi l u 1 1) i j r = 2 * rs x l u i j r := fun i j r => by rw [rs_tlo.1]; unfold mid rom; omega
  have e2 : ∀ i j r, rs x (thi l u 1 1) (tlo l u 1 1) i j r = 2 * rs x u l i j r := fun i j r => by rw [rs_tlo.2]; unfold mid rom; omega
  unfold HPg
  simp only [e1, e2]
  refine ⟨fun h => ⟨fun i j r h1 h2 h3 h0 => by have := h.1 i j r h1 h2 h3 h0; omega, fun i j r h1 h2 h3 h0 => by have := h.2.1 i j r h1 h2 h3 h0; omega, fun i j r i' j' r' h1 h2 h3 h0 g1 g2 g3 g0 => ?_⟩, fun h => ⟨fun i j r h1 h2 h3 h0 => by have := h.1 i j r h1 h2 h3 h0; omega, fun i j r h1 h2 h3 h0 => by have := h.2.1 i j r h1 h2 h3 h0; omega, fun i j r i' j' r' h1 h2 h3 h0 g1 g2 g3 g0 => ?_⟩⟩
  · have := h.2.2 i j r i' j' r' h1 h2 h3 h0 g1 g2 g3 g0
    rw [Int.mul_assoc, Int.mul_assoc] at this
    omega
  · have := h.2.2 i j r i' j' r' h1 h2 h3 h0 g1 g2 g3 g0
    rw [Int.mul_assoc, Int.mul_assoc]
    omega
/-- an arch and its moments -/
def PA (x l u m : Nat → Int) (n : Nat) : Prop := XI x n ∧ (2 ≤ n ∧ n ≤ 6) ∧ (∀ i, i ≤ n → l i ≤ u i) ∧ (∀ i j r, i < j → j < r → r ≤ n → 0 ≤ bnd x m i j r) ∧ 0 < x n
theorem AR.pa {x l u w : Nat → Int} {n : Nat} (h : AR x l u w n) : PA x l u (mo x w n) n := by
  have h2 := h.1
  refine ⟨⟨h.2.1, h.lt⟩, h.1, fun i hi => (h.2.2.2.2.1 i hi).2.1, fun i j r a b c => (mo_bend h a b c).1, ?_⟩
  have := h.lt 0 n (by omega) (Nat.le_refl n)
  have := h.2.1
  omega
theorem RF_e {x l u m : Nat → Int} {n i c : Nat} (hi : i ≤ n) : RF x l u m n (2 * i) c = rE x l m (x n) i c := by
  unfold RF
  rw [if_neg (by omega), if_pos (by omega), show 2 * i / 2 = i by omega]
theorem RF_o {x l u m : Nat → Int} {n i c : Nat} (hi : i ≤ n) : RF x l u m n (2 * i + 1) c = rO x u m (x n) i c := by
  unfold RF
  rw [if_neg (by omega), if_neg (by omega), show (2 * i + 1) / 2 = i by omega]
theorem RF_p {x l u m : Nat → Int} {n c : Nat} : RF x l u m n (2 * n + 2) c = if c = 2 then 1 else 0 := by
  unfold RF
  rw [if_pos rfl]
theorem kpf_iff {x l u m : Nat → Int} {n : Nat} {A B K d : Int} : KpF (RF x l u m n) (2 * n + 3) A B K d ↔ (∀ i, i ≤ n → x n * l i * d ≤ (x n - x i) * A + x i * B + m i * K ∧ (x n - x i) * A + x i * B + m i * K ≤ x n * u i * d) ∧ 0 ≤ K := by
  constructor
  · intro h
    refine ⟨fun i hi => ?_, ?_⟩
    · have h1 := h (2 * i) (by omega)
      have h2 := h (2 * i + 1) (by omega)
      simp only [RF_e hi, RF_o hi, rE, rO] at h1 h2
      refine ⟨h1, ?_⟩
      have e1 : -x n * u i * d = -(x n * u i * d) := by grind
      have e2 : -(x n - x i) * A + -x i * B + -m i * K = -((x n - x i) * A + x i * B + m i * K) := by grind
      omega
    · have h1 := h (2 * n + 2) (by omega)
      simp only [RF_p] at h1
      simp at h1
      exact h1
  · rintro ⟨h, hK⟩ r hr
    by_cases h0 : r = 2 * n + 2
    · subst h0
      simp only [RF_p]
      simp
      exact hK
    · have h1 : r = 2 * (r / 2) ∨ r = 2 * (r / 2) + 1 := by omega
      have h2 : r / 2 ≤ n := by omega
      generalize r / 2 = i at *
      have h3 := h i h2
      rcases h1 with rfl | rfl
      · simp only [RF_e h2, rE]
        exact h3.1
      · simp only [RF_o h2, rO]
        have e1 : -x n * u i * d = -(x n * u i * d) := by grind
        have e2 : -(x n - x i) * A + -x i * B + -m i * K = -((x n - x i) * A + x i * B + m i * K) := by grind
        omega
theorem kpf_lp {x l u m : Nat → Int} {n : Nat} {A B K d : Int} (h : KpF (RF x l u m n) (2 * n + 3) A B K d) : LnP x l u m n (A * x n) (B - A) K (x n * d) ∧ 0 ≤ K := by
  have h1 := kpf_iff.mp h
  refine ⟨fun i hi => ?_, h1.2⟩
  have h2 := h1.1 i hi
  have e1 : A * x n + (B - A) * x i + m i * K = (x n - x i) * A + x i * B + m i * K := by grind
  have e2 : l i * (x n * d) = x n * l i * d := by grind
  have e3 : u i * (x n * d) = x n * u i * d := by grind
  omega
theorem lp_kpf {x l u m : Nat → Int} {n : Nat} {S T K D : Int} (hL : 0 < x n) (hK : 0 ≤ K) (h : LnP x l u m n S T K D) : KpF (RF x l u m n) (2 * n + 3) S (S + T * x n) (K * x n) D := by
  refine kpf_iff.mpr ⟨fun i hi => ?_, Int.mul_nonneg hK (Int.le_of_lt hL)⟩
  have h2 := h i hi
  have k1 := Int.mul_le_mul_of_nonneg_left h2.1 (Int.le_of_lt hL)
  have k2 := Int.mul_le_mul_of_nonneg_left h2.2 (Int.le_of_lt hL)
  have e1 : (x n - x i) * S + x i * (S + T * x n) + m i * (K * x n) = x n * (S + T * x i + m i * K) := by grind
  have e2 : x n * (l i * D) = x n * l i * D := by grind
  have e3 : x n * (u i * D) = x n * u i * D := by grind
  omega
/-- no line lies on the better side of the least line at the outermost push -/
theorem side3 {x l u m : Nat → Int} {n : Nat} {e K D S E T F w0 w1 w2 N : Int} (hP : PA x l u m n) (hD : 0 < D) (hN : 0 < N) (hk : ∀ K' D', 0 < D' → 0 ≤ K' → Tr x l u m n K' D' → e * (K * D') ≤ e * (K' * D)) (hS : StOK x (fun i => l i * D - m i * K) (fun i => u i * D - m i * K) n S E) (hT : SlOK x (fun i => l i * D - m i * K) n S E T F)
    (h : KpF (RF x l u m n) (2 * n + 3) (S * F * N + w0) ((S * F + T * x n) * N + w1) (K * (E * F) * x n * N + w2) (D * (E * F) * N)) : 0 ≤ e * w2 ∧ (w2 = 0 → 0 ≤ w0 ∧ (w0 = 0 → 0 ≤ w1)) := by
  obtain ⟨hx, hn, hle, hb, hL⟩ := hP
  have hg : 0 < E * F := Int.mul_pos hS.1 hT.1
  obtain ⟨h1, h2⟩ := kpf_lp h
  have hD' : 0 < x n * (D * (E * F) * N) := Int.mul_pos hL (Int.mul_pos (Int.mul_pos hD hg) hN)
  constructor
  · have h3 := hk _ _ hD' h2 (h1.tr hx)
    have e1 : e * ((K * (E * F) * x n * N + w2) * D) - e * (K * (x n * (D * (E * F) * N))) = e * w2 * D := by grind
    exact (zc_le hD).mp (by omega)
  · intro h0
    subst h0
    rw [show K * (E * F) * x n * N + 0 = K * (E * F * x n * N) by grind, show x n * (D * (E * F) * N) = D * (E * F * x n * N) by grind] at h1
    have h3 := LnP_least hx (by omega) hS hT h1
    have hgx : 0 < x n * (E * F) := Int.mul_pos hL hg
    have e1 : (S * F * N + w0) * x n * (E * F) - S * F * (E * F * x n * N) = w0 * (x n * (E * F)) := by grind
    refine ⟨(zc_le hgx).mp (by omega), fun h4 => ?_⟩
    subst h4
    have h5 := h3.2 (by omega)
    have e2 : ((S * F + T * x n) * N + w1 - (S * F * N + 0)) * (E * F) - T * (E * F * x n * N) = w1 * (E * F) := by grind
    exact (zc_le hg).mp (by omega)
theorem pt_kpf {x l u m : Nat → Int} {n : Nat} {K D S E T F : Int} (hP : PA x l u m n) (hD : 0 < D) (hK : 0 ≤ K) (ht : Tr x l u m n K D) (hS : StOK x (fun i => l i * D - m i * K) (fun i => u i * D - m i * K) n S E) (hT : SlOK x (fun i => l i * D - m i * K) n S E T F) : 0 < D * (E * F) ∧ KpF (RF x l u m n) (2 * n + 3) (S * F) (S * F + T * x n) (K * (E * F) * x n) (D * (E * F)) := by
  have hg : 0 < E * F := Int.mul_pos hS.1 hT.1
  exact ⟨Int.mul_pos hD hg, lp_kpf hP.2.2.2.2 (Int.mul_nonneg hK (Int.le_of_lt hg)) (LnP_of hP.1 ht hD hP.2.2.1 hS hT)⟩
theorem pt_vert {x l u m : Nat → Int} {n : Nat} {e K D S E T F : Int} (hP : PA x l u m n) (he : e = 1 ∨ e = -1) (hD : 0 < D) (hK : 0 ≤ K) (ht : Tr x l u m n K D) (hk : ∀ K' D', 0 < D' → 0 ≤ K' → Tr x l u m n K' D' → e * (K * D') ≤ e * (K' * D)) (hS : StOK x (fun i => l i * D - m i * K) (fun i => u i * D - m i * K) n S E) (hT : SlOK x (fun i => l i * D - m i * K) n S E T F) :
    ∃ p q r a' b' k' d', p < q ∧ q < r ∧ r < 2 * n + 3 ∧ Vx (RF x l u m n) p q r a' b' k' d' ∧ KpF (RF x l u m n) (2 * n + 3) a' b' k' d' ∧ 0 < d' ∧ a' * (D * (E * F)) = S * F * d' ∧ b' * (D * (E * F)) = (S * F + T * x n) * d' ∧ k' * (D * (E * F)) = K * (E * F) * x n * d' := by
  obtain ⟨h1, h2⟩ := pt_kpf hP hD hK ht hS hT
  refine vert3 h1 h2 (fun w0 w1 w2 N hN a1 a2 => ?_)
  have s1 := side3 hP hD hN hk hS hT a1
  have s2 := side3 (w0 := -w0) (w1 := -w1) (w2 := -w2) hP hD hN hk hS hT (by rw [Int.sub_eq_add_neg, Int.sub_eq_add_neg, Int.sub_eq_add_neg] at a2; exact a2)
  have z2 : w2 = 0 := by
    have b1 := s1.1
    have b2 := s2.1
    rcases he with rfl | rfl <;> omega
  have z0 : w0 = 0 := by
    have b1 := (s1.2 z2).1
    have b2 := (s2.2 (by omega)).1
    omega
  have z1 : w1 = 0 := by
    have b1 := (s1.2 z2).2 z0
    have b2 := (s2.2 (by omega)).2 (by omega)
    omega
  exact ⟨z0, z1, z2⟩
theorem li_stands {x l u m : Nat → Int} {n : Nat} {τ : Nat → Nat → Int} (hP : PA x l u m n) (h : LI (RF x l u m n) (2 * n + 3) (AllT (2 * n + 3)) τ) : (τ 0 12 = 1 ∧ HPg x l u m n) ∨ (τ 0 12 = 0 ∧ ¬ HPg x l u m n) := by
  obtain ⟨hB, h0, h1⟩ := h
  rcases hB with hz | ⟨hz, ⟨hb, _⟩, _⟩
  · refine Or.inr ⟨hz, fun hH => ?_⟩
    obtain ⟨K, D, hD, hK, ht, hk⟩ := kmin_ex hP.2.1.2 hP.2.2.2.1 hH
    obtain ⟨S, E, hS⟩ := st_ex (sl := fun i => l i * D - m i * K) (sh := fun i => u i * D - m i * K) hP.1 hP.2.1.2
    obtain ⟨T, F, hT⟩ := sl_ex (sl := fun i => l i * D - m i * K) (S := S) (E := E) hP.1 (show 1 ≤ n by have := hP.2.1; omega)
    obtain ⟨p, q, r, a, b, k, d, pq, qr, rn, hv, hkp, _⟩ := pt_vert (e := 1) hP (Or.inl rfl) hD hK ht (fun K' D' a1 a2 a3 => by have := hk K' D' a1 a2 a3; omega) hS hT
    exact h0 hz p q r ⟨pq, qr, rn⟩ a b k d hv hkp
  · refine Or.inl ⟨hz, ?_⟩
    obtain ⟨h2, h3⟩ := kpf_lp (h1 hz).1
    exact Tr.hp (Int.mul_pos hP.2.2.2.2 hb) h3 (h2.tr hP.1)
theorem li_best {x l u m : Nat → Int} {n : Nat} {τ : Nat → Nat → Int} {K D S E T F : Int} (hP : PA x l u m n) (h : LI (RF x l u m n) (2 * n + 3) (AllT (2 * n + 3)) τ) (h12 : τ 0 12 = 1) (hD : 0 < D) (hK : 0 ≤ K) (ht : Tr x l u m n K D) (hk : ∀ K' D', 0 < D' → 0 ≤ K' → Tr x l u m n K' D' → K' * D ≤ K * D') (hS : StOK x (fun i => l i * D - m i * K) (fun i => u i * D - m i * K) n S E) (hT : SlOK x (fun i => l i * D - m i * K) n S E T F) :
    τ 10 2 * (D * (E * F)) = K * (E * F) * x n * τ 0 14 ∧ τ 10 0 * (D * (E * F)) = S * F * τ 0 14 ∧ τ 10 1 * (D * (E * F)) = (S * F + T * x n) * τ 0 14 ∧ 0 < τ 0 14 := by
  obtain ⟨hB, h0, h1⟩ := h
  have hd0 : 0 < τ 0 14 := by
    rcases hB with hz | ⟨_, ⟨hb, _⟩, _⟩
    · omega
    · exact hb
  obtain ⟨b1, _, b3⟩ := h1 h12
  have hk' : ∀ K' D', 0 < D' → 0 ≤ K' → Tr x l u m n K' D' → (-1) * (K * D') ≤ (-1) * (K' * D) := fun K' D' a1 a2 a3 => by have := hk K' D' a1 a2 a3; omega
  obtain ⟨p, q, r, a, b, k, d, pq, qr, rn, hv, hkp, hd, ea, eb, ek⟩ := pt_vert (e := -1) hP (Or.inr rfl) hD hK ht hk' hS hT
  have n1 := (b3 p q r ⟨pq, qr, rn⟩ a b k d hv hkp).1
  obtain ⟨hG, hpt⟩ := pt_kpf hP hD hK ht hS hT
  rw [← LexB.scale (e := D * (E * F)) hG, ea, eb, ek, Int.mul_comm d, LexB.scale hd] at n1
  -- the other way
  have s := side3 (w0 := τ 10 0 * (D * (E * F)) - S * F * τ 0 14) (w1 := τ 10 1 * (D * (E * F)) - (S * F + T * x n) * τ 0 14) (w2 := τ 10 2 * (D * (E * F)) - K * (E * F) * x n * τ 0 14) hP hD hd0 hk' hS hT (by
    have h5 := (KpF.scale (f := RF x l u m n) (nr := 2 * n + 3) (a := τ 10 0) (b := τ 10 1) (k := τ 10 2) (d := τ 0 14) hG).mpr b1
    rw [show S * F * τ 0 14 + (τ 10 0 * (D * (E * F)) - S * F * τ 0 14) = τ 10 0 * (D * (E * F)) by omega, show (S * F + T * x n) * τ 0 14 + (τ 10 1 * (D * (E * F)) - (S * F + T * x n) * τ 0 14) = τ 10 1 * (D * (E * F)) by omega, show K * (E * F) * x n * τ 0 14 + (τ 10 2 * (D * (E * F)) - K * (E * F) * x n * τ 0 14) = τ 10 2 * (D * (E * F)) by omega, Int.mul_comm (D * (E * F)) (τ 0 14)]
    exact h5)
  unfold LexB at n1
  have k1 : τ 10 2 * (D * (E * F)) = K * (E * F) * x n * τ 0 14 := by
    have := s.1
    have : ¬ (τ 10 2 * (D * (E * F)) < K * (E * F) * x n * τ 0 14) := fun hh => n1 (Or.inl hh)
    omega
  have k2 : τ 10 0 * (D * (E * F)) = S * F * τ 0 14 := by
    have := (s.2 (by omega)).1
    have : ¬ (S * F * τ 0 14 < τ 10 0 * (D * (E * F))) := fun hh => n1 (Or.inr ⟨by omega, Or.inl hh⟩)
    omega
  have k3 : τ 10 1 * (D * (E * F)) = (S * F + T * x n) * τ 0 14 := by
    have := (s.2 (by omega)).2 (by omega)
    have : ¬ ((S * F + T * x n) * τ 0 14 < τ 10 1 * (D * (E * F))) := fun hh => n1 (Or.inr ⟨by omega, Or.inr ⟨by omega, hh⟩⟩)
    omega
  exact ⟨k1, k2, k3, hd0⟩
theorem li_least {x l u m : Nat → Int} {n : Nat} {τ : Nat → Nat → Int} {K D : Int} (hP : PA x l u m n) (h : LI (RF x l u m n) (2 * n + 3) (AllT (2 * n + 3)) τ) (h12 : τ 0 12 = 1) (hD : 0 < D) (hK : 0 ≤ K) (ht : Tr x l u m n K D) (hk : ∀ K' D', 0 < D' → 0 ≤ K' → Tr x l u m n K' D' → K * D' ≤ K' * D) :
    τ 0 15 * D = K * x n * τ 0 16 ∧ 0 < τ 0 16 ∧ 0 ≤ τ 0 15 := by
  obtain ⟨hB, h0, h1⟩ := h
  have hd0 : 0 < τ 0 16 := by
    rcases hB with hz | ⟨_, _, hb, _⟩
    · omega
    · exact hb
  obtain ⟨_, ⟨a0, b0, b2⟩, b3⟩ := h1 h12
  have hk' : ∀ K' D', 0 < D' → 0 ≤ K' → Tr x l u m n K' D' → 1 * (K * D') ≤ 1 * (K' * D) := fun K' D' a1 a2 a3 => by have := hk K' D' a1 a2 a3; omega
  obtain ⟨S, E, hS⟩ := st_ex (sl := fun i => l i * D - m i * K) (sh := fun i => u i * D - m i * K) hP.1 hP.2.1.2
  obtain ⟨T, F, hT⟩ := sl_ex (sl := fun i => l i * D - m i * K) (S := S) (E := E) hP.1 (show 1 ≤ n by have := hP.2.1; omega)
  obtain ⟨p, q, r, a, b, k, d, pq, qr, rn, hv, hkp, hd, ea, eb, ek⟩ := pt_vert (e := 1) hP (Or.inl rfl) hD hK ht hk' hS hT
  have n1 := (b3 p q r ⟨pq, qr, rn⟩ a b k d hv hkp).2
  obtain ⟨h2, h3⟩ := kpf_lp b2
  have n2 := hk _ _ (Int.mul_pos hP.2.2.2.2 hd0) h3 (h2.tr hP.1)
  have hg : 0 < E * F := Int.mul_pos hS.1 hT.1
  have hG : 0 < D * (E * F) := Int.mul_pos hD hg
  refine ⟨?_, hd0, h3⟩
  have e1 : K * (x n * τ 0 16) = K * x n * τ 0 16 := by grind
  have n3 : τ 0 15 * D ≤ K * x n * τ 0 16 := by
    have hdg : 0 < d * (E * F) := Int.mul_pos hd hg
    refine (zc_le hdg).mp ?_
    have h5 := Int.mul_le_mul_of_nonneg_right n1 (Int.le_of_lt hG)
    have e2 : τ 0 15 * D * (d * (E * F)) = τ 0 15 * d * (D * (E * F)) := by grind
    have e3 : K * x n * τ 0 16 * (d * (E * F)) = (K * (E * F) * x n * d) * τ 0 16 := by grind
    rw [e2, e3, ← ek]
    have e4 : k * (D * (E * F)) * τ 0 16 = k * τ 0 16 * (D * (E * F)) := by grind
    omega
  omega
