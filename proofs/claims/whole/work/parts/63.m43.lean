/-! the thinned arch: four rows meet at the least factor -/
theorem RT_e {x l u m : Nat → Int} {n i c : Nat} (hi : i ≤ n) : RTf x l u m n (2 * i) c = tE x l u m (x n) i c := by
  unfold RTf
  rw [if_neg (by omega), if_neg (by omega), if_pos (by omega), show 2 * i / 2 = i by omega]
theorem RT_o {x l u m : Nat → Int} {n i c : Nat} (hi : i ≤ n) : RTf x l u m n (2 * i + 1) c = tO x l u m (x n) i c := by
  unfold RTf
  rw [if_neg (by omega), if_neg (by omega), if_neg (by omega), show (2 * i + 1) / 2 = i by omega]
theorem RT_p {x l u m : Nat → Int} {n c : Nat} : RTf x l u m n (2 * n + 2) c = if c = 2 then 1 else 0 := by
  unfold RTf
  rw [if_neg (by omega), if_pos rfl]
theorem RT_t {x l u m : Nat → Int} {n c : Nat} : RTf x l u m n (2 * n + 3) c = if c = 3 then 1 else 0 := by
  unfold RTf
  rw [if_pos rfl]
theorem kpt_iff {x l u m : Nat → Int} {n : Nat} {A B K t d : Int} : KpT (RTf x l u m n) (2 * n + 4) A B K t d ↔ (∀ i, i ≤ n → x n * (u i + l i) * d ≤ 2 * (x n - x i) * A + 2 * x i * B + 2 * m i * K + x n * (u i - l i) * t ∧ 2 * (x n - x i) * A + 2 * x i * B + 2 * m i * K ≤ x n * (u i + l i) * d + x n * (u i - l i) * t) ∧ 0 ≤ K ∧ 0 ≤ t := by
  constructor
  · intro h
    refine ⟨fun i hi => ?_, ?_, ?_⟩
    · have h1 := h (2 * i) (by omega)
      have h2 := h (2 * i + 1) (by omega)
      simp only [RT_e hi, RT_o hi, tE, tO] at h1 h2
      refine ⟨h1, ?_⟩
      have e1 : -(x n * (u i + l i)) * d = -(x n * (u i + l i) * d) := by grind
      have e2 : -2 * (x n - x i) * A + -2 * x i * B + -2 * m i * K = -(2 * (x n - x i) * A + 2 * x i * B + 2 * m i * K) := by grind
      omega
    · have h1 := h (2 * n + 2) (by omega)
      simp only [RT_p] at h1
      simp at h1
      exact h1
    · have h1 := h (2 * n + 3) (by omega)
      simp only [RT_t] at h1
      simp at h1
      exact h1
  · rintro ⟨h, hK, ht⟩ r hr
    by_cases h0 : r = 2 * n + 2
    · subst h0
      simp only [RT_p]
      simp
      exact hK
    · by_cases h9 : r = 2 * n + 3
      · subst h9
        simp only [RT_t]
        simp
        exact ht
      · have h1 : r = 2 * (r / 2) ∨ r = 2 * (r / 2) + 1 := by omega
        have h2 : r / 2 ≤ n := by omega
        generalize r / 2 = i at *
        have h3 := h i h2
        rcases h1 with rfl | rfl
        · simp only [RT_e h2, tE]
          exact h3.1
        · simp only [RT_o h2, tO]
          have e1 : -(x n * (u i + l i)) * d = -(x n * (u i + l i) * d) := by grind
          have e2 : -2 * (x n - x i) * A + -2 * x i * B + -2 * m i * K = -(2 * (x n - x i) * A + 2 * x i * B + 2 * m i * K) := by grind
          omega
theorem kpt_lp {x l u m : Nat → Int} {n : Nat} {A B K t d : Int} (h : KpT (RTf x l u m n) (2 * n + 4) A B K t d) : LnP x (tlo l u t d) (thi l u t d) m n (2 * (A * x n)) (2 * (B - A)) (2 * K) (x n) ∧ 0 ≤ K ∧ 0 ≤ t := by
  have h1 := kpt_iff.mp h
  refine ⟨fun i hi => ?_, h1.2⟩
  have h2 := h1.1 i hi
  unfold tlo thi
  have e1 : 2 * (A * x n) + 2 * (B - A) * x i + m i * (2 * K) = 2 * (x n - x i) * A + 2 * x i * B + 2 * m i * K := by grind
  have e2 : ((l i + u i) * d - (u i - l i) * t) * x n = x n * (u i + l i) * d - x n * (u i - l i) * t := by grind
  have e3 : ((l i + u i) * d + (u i - l i) * t) * x n = x n * (u i + l i) * d + x n * (u i - l i) * t := by grind
  omega
theorem lp_kpt {x l u m : Nat → Int} {n : Nat} {S T K D a b : Int} (hL : 0 < x n) (hK : 0 ≤ K) (ha : 0 ≤ a) (hD : 0 ≤ D) (h : LnP x (tlo l u a b) (thi l u a b) m n S T K D) : KpT (RTf x l u m n) (2 * n + 4) S (S + T * x n) (K * x n) (2 * a * D) (2 * b * D) := by
  refine kpt_iff.mpr ⟨fun i hi => ?_, Int.mul_nonneg hK (Int.le_of_lt hL), Int.mul_nonneg (by omega) hD⟩
  have h2 := h i hi
  unfold tlo thi at h2
  have k1 := Int.mul_le_mul_of_nonneg_left h2.1 (show 0 ≤ 2 * x n by omega)
  have k2 := Int.mul_le_mul_of_nonneg_left h2.2 (show 0 ≤ 2 * x n by omega)
  have e1 : 2 * (x n - x i) * S + 2 * x i * (S + T * x n) + 2 * m i * (K * x n) = 2 * x n * (S + T * x i + m i * K) := by grind
  have e2 : 2 * x n * (((l i + u i) * b - (u i - l i) * a) * D) = x n * (u i + l i) * (2 * b * D) - x n * (u i - l i) * (2 * a * D) := by grind
  have e3 : 2 * x n * (((l i + u i) * b + (u i - l i) * a) * D) = x n * (u i + l i) * (2 * b * D) + x n * (u i - l i) * (2 * a * D) := by grind
  omega
theorem kpt_hold {x l u m : Nat → Int} {n : Nat} {A B K t d : Int} (hP : PA x l u m n) (hd : 0 < d) (h : KpT (RTf x l u m n) (2 * n + 4) A B K t d) : HoldP x l u m n t d ∧ 0 ≤ t := by
  obtain ⟨h1, h2, h3⟩ := kpt_lp h
  exact ⟨(hp_iff hd).mpr (Tr.hp hP.2.2.2.2 (show 0 ≤ 2 * K by omega) (h1.tr hP.1)), h3⟩
theorem tlo_sc {l u : Nat → Int} {a b c : Int} {i : Nat} : tlo l u (a * c) (b * c) i = tlo l u a b i * c ∧ thi l u (a * c) (b * c) i = thi l u a b i * c := by
  unfold tlo thi
  constructor <;> grind
theorem tlo_le {l u : Nat → Int} {a b : Int} {i : Nat} (ha : 0 ≤ a) (h : l i ≤ u i) : tlo l u a b i ≤ thi l u a b i := by
  unfold tlo thi
  have := Int.mul_nonneg (show 0 ≤ u i - l i by omega) ha
  omega
theorem side4 {x l u m : Nat → Int} {n : Nat} {a b K D S E T F w0 w1 w2 w3 N : Int} (hP : PA x l u m n) (hb0 : 0 < b) (hD : 0 < D) (hN : 0 < N) (hmin : ∀ a' b' : Int, 0 ≤ a' → 0 < b' → HoldP x l u m n a' b' → a * b' ≤ a' * b) (hk : ∀ K' D', 0 < D' → 0 ≤ K' → Tr x (tlo l u a b) (thi l u a b) m n K' D' → K * D' ≤ K' * D) (hS : StOK x (fun i => tlo l u a b i * D - m i * K) (fun i => thi l u a b i * D - m i * K) n S E) (hT : SlOK x (fun i => tlo l u a b i * D - m i * K) n S E T F)
    (h : KpT (RTf x l u m n) (2 * n + 4) (S * F * N + w0) ((S * F + T * x n) * N + w1) (K * (E * F) * x n * N + w2) (2 * a * (D * (E * F)) * N + w3) (2 * b * (D * (E * F)) * N)) : 0 ≤ w3 ∧ (w3 = 0 → 0 ≤ w2 ∧ (w2 = 0 → 0 ≤ w0 ∧ (w0 = 0 → 0 ≤ w1))) := by
  obtain ⟨hx, hn, hle, hb, hL⟩ := hP
  have hg : 0 < E * F := Int.mul_pos hS.1 hT.1
  have hG : 0 < D * (E * F) := Int.mul_pos hD hg
  have hd : 0 < 2 * b * (D * (E * F)) * N := Int.mul_pos (Int.mul_pos (by omega) hG) hN
  constructor
  · obtain ⟨h1, h2⟩ := kpt_hold ⟨hx, hn, hle, hb, hL⟩ hd h
    have h3 := hmin _ _ h2 hd h1
    have e1 : (2 * a * (D * (E * F)) * N + w3) * b - a * (2 * b * (D * (E * F)) * N) = w3 * b := by grind
    exact (zc_le hb0).mp (by omega)
  · intro h0
    subst h0
    obtain ⟨h1, h2, h3⟩ := kpt_lp h
    have h4 : LnP x (tlo l u a b) (thi l u a b) m n (2 * ((S * F * N + w0) * x n)) (2 * ((S * F + T * x n) * N + w1 - (S * F * N + w0))) (2 * (K * (E * F) * x n * N + w2)) (D * (2 * (E * F) * x n * N)) := by
      intro i hi
      have h5 := h1 i hi
      rw [show 2 * a * (D * (E * F)) * N + 0 = a * (2 * (D * (E * F)) * N) by grind, show 2 * b * (D * (E * F)) * N = b * (2 * (D * (E * F)) * N) by grind, tlo_sc.1, tlo_sc.2] at h5
      have e1 : tlo l u a b i * (2 * (D * (E * F)) * N) * x n = tlo l u a b i * (D * (2 * (E * F) * x n * N)) := by grind
      have e2 : thi l u a b i * (2 * (D * (E * F)) * N) * x n = thi l u a b i * (D * (2 * (E * F) * x n * N)) := by grind
      rw [e1, e2] at h5
      exact h5
    have hM : 0 < 2 * (E * F) * x n * N := Int.mul_pos (Int.mul_pos (by omega) hL) hN
    constructor
    · have h5 := hk _ _ (Int.mul_pos hD hM) (show 0 ≤ 2 * (K * (E * F) * x n * N + w2) by omega) (h4.tr hx)
      have e1 : 2 * (K * (E * F) * x n * N + w2) * D - K * (D * (2 * (E * F) * x n * N)) = 2 * w2 * D := by grind
      have := (zc_le (a := 0) (b := 2 * w2) hD).mp (by omega)
      omega
    · intro h6
      subst h6
      rw [show 2 * (K * (E * F) * x n * N + 0) = K * (2 * (E * F) * x n * N) by grind] at h4
      have h7 := LnP_least hx (by omega) hS hT h4
      have hgx : 0 < 2 * (x n * (E * F)) := by have := Int.mul_pos hL hg; omega
      have e1 : 2 * ((S * F * N + w0) * x n) * (E * F) - S * F * (2 * (E * F) * x n * N) = w0 * (2 * (x n * (E * F))) := by grind
      refine ⟨(zc_le hgx).mp (by omega), fun h8 => ?_⟩
      subst h8
      have h9 := h7.2 (by omega)
      have hg2 : 0 < 2 * (E * F) := by omega
      have e2 : 2 * ((S * F + T * x n) * N + w1 - (S * F * N + 0)) * (E * F) - T * (2 * (E * F) * x n * N) = w1 * (2 * (E * F)) := by grind
      exact (zc_le hg2).mp (by omega)
theorem fac_vert {x l u m : Nat → Int} {n : Nat} {a b : Int} (hP : PA x l u m n) (ha : 0 ≤ a) (hb0 : 0 < b) (hH : HoldP x l u m n a b) (hmin : ∀ a' b' : Int, 0 ≤ a' → 0 < b' → HoldP x l u m n a' b' → a * b' ≤ a' * b) :
    ∃ p q r s a' b' k' t' d', p < q ∧ q < r ∧ r < s ∧ s < 2 * n + 4 ∧ Vx4 (RTf x l u m n) p q r s a' b' k' t' d' ∧ KpT (RTf x l u m n) (2 * n + 4) a' b' k' t' d' ∧ 0 < d' ∧ t' * b = a * d' := by
  obtain ⟨K, D, hD, hK, ht, hk⟩ := kmin_ex hP.2.1.2 hP.2.2.2.1 ((hp_iff hb0).mp hH)
  obtain ⟨S, E, hS⟩ := st_ex (sl := fun i => tlo l u a b i * D - m i * K) (sh := fun i => thi l u a b i * D - m i * K) hP.1 hP.2.1.2
  obtain ⟨T, F, hT⟩ := sl_ex (sl := fun i => tlo l u a b i * D - m i * K) (S := S) (E := E) hP.1 (show 1 ≤ n by have := hP.2.1; omega)
  have hg : 0 < E * F := Int.mul_pos hS.1 hT.1
  have hG : 0 < D * (E * F) := Int.mul_pos hD hg
  have h1 := lp_kpt hP.2.2.2.2 (Int.mul_nonneg hK (Int.le_of_lt hg)) ha (Int.le_of_lt hG) (LnP_of hP.1 ht hD (fun i hi => tlo_le ha (hP.2.2.1 i hi)) hS hT)
  have hd : 0 < 2 * b * (D * (E * F)) := Int.mul_pos (by omega) hG
  obtain ⟨p, q, r, s, a', b', k', t', d', pq, qr, rs9, sn, hv, hkp, hd', et⟩ := vert4 hd h1 (fun w0 w1 w2 w3 N hN a1 a2 => by
    have s1 := side4 hP hb0 hD hN hmin hk hS hT a1
    have s2 := side4 (w0 := -w0) (w1 := -w1) (w2 := -w2) (w3 := -w3) hP hb0 hD hN hmin hk hS hT (by rw [Int.sub_eq_add_neg, Int.sub_eq_add_neg, Int.sub_eq_add_neg, Int.sub_eq_add_neg] at a2; exact a2)
    have z3 : w3 = 0 := by
      have b1 := s1.1
      have b2 := s2.1
      omega
    have z2 : w2 = 0 := by
      have b1 := (s1.2 z3).1
      have b2 := (s2.2 (by omega)).1
      omega
    have z0 : w0 = 0 := by
      have b1 := ((s1.2 z3).2 z2).1
      have b2 := ((s2.2 (by omega)).2 (by omega)).1
      omega
    have z1 : w1 = 0 := by
      have b1 := ((s1.2 z3).2 z2).2 z0
      have b2 := ((s2.2 (by omega)).2 (by omega)).2 (by omega)
      omega
    exact ⟨z0, z1, z2, z3⟩)
  refine ⟨p, q, r, s, a', b', k', t', d', pq, qr, rs9, sn, hv, hkp, hd', ?_⟩
  have hG2 : 0 < 2 * (D * (E * F)) := by omega
  refine (zc_eq hG2).mp ?_
  have e1 : t' * b * (2 * (D * (E * F))) = t' * (2 * b * (D * (E * F))) := by grind
  have e2 : a * d' * (2 * (D * (E * F))) = 2 * a * (D * (E * F)) * d' := by grind
  rw [e1, e2, et]
theorem red_eq {a b c d : Int} (hb : 0 < b) (hd : 0 < d) (g1 : Nat.gcd a.natAbs b.natAbs = 1) (g2 : Nat.gcd c.natAbs d.natAbs = 1) (h : a * d = c * b) : a = c ∧ b = d := by
  have hn : a.natAbs * d.natAbs = c.natAbs * b.natAbs := by rw [← Int.natAbs_mul, ← Int.natAbs_mul, h]
  have h1 : b.natAbs ∣ d.natAbs := by
    have c1 : Nat.Coprime b.natAbs a.natAbs := by unfold Nat.Coprime; rw [Nat.gcd_comm]; exact g1
    exact Nat.Coprime.dvd_of_dvd_mul_left c1 ⟨c.natAbs, by rw [hn, Nat.mul_comm]⟩
  have h2 : d.natAbs ∣ b.natAbs := by
    have c1 : Nat.Coprime d.natAbs c.natAbs := by unfold Nat.Coprime; rw [Nat.gcd_comm]; exact g2
    exact Nat.Coprime.dvd_of_dvd_mul_left c1 ⟨a.natAbs, by rw [← hn, Nat.mul_comm]⟩
  have h3 := Nat.dvd_antisymm h1 h2
  have h4 : b = d := by omega
  refine ⟨?_, h4⟩
  rw [h4] at h
  exact (zc_eq hd).mp h
theorem red_fr {a b c d : Int} (hb : 0 < b) (hd : 0 < d) (h : a * d = c * b) : rN a b = rN c d ∧ rD a b = rD c d := by
  obtain ⟨G, hG, e1, e2, e3, e4⟩ := red_f (A := a) (B := b) hb
  obtain ⟨G', hG', f1, f2, f3, f4⟩ := red_f (A := c) (B := d) hd
  refine red_eq e3 f3 e4 f4 ?_
  refine (zc_eq (Int.mul_pos hG hG')).mp ?_
  have k1 : a.tdiv (gcZ a b) * d.tdiv (gcZ c d) * (G * G') = (a.tdiv (gcZ a b) * G) * (d.tdiv (gcZ c d) * G') := by grind
  have k2 : c.tdiv (gcZ c d) * b.tdiv (gcZ a b) * (G * G') = (c.tdiv (gcZ c d) * G') * (b.tdiv (gcZ a b) * G) := by grind
  unfold rN rD
  rw [k1, k2, e1, e2, f1, f2, h]
theorem fi_factor {x l u m : Nat → Int} {n : Nat} {τ : Nat → Nat → Int} (hP : PA x l u m n) (h : FI (RTf x l u m n) (2 * n + 4) (All4 (2 * n + 4)) τ) : (NoFac x l u m n → ¬ 0 < τ 0 20) ∧ ∀ a b, FacP x l u m n a b → 0 < τ 0 20 ∧ τ 0 19 = a ∧ τ 0 20 = b := by
  obtain ⟨hB, h0, h1⟩ := h
  constructor
  · intro hN hp
    obtain ⟨_, ⟨a, b, k, e, he, hk⟩, _⟩ := h1 hp
    obtain ⟨h2, h3⟩ := kpt_hold hP (Int.mul_pos hp he) hk
    exact hN _ _ h3 (Int.mul_pos hp he) h2
  · intro a b hF
    obtain ⟨hq, hg, hH, hmin⟩ := hF
    obtain ⟨p, q, r, s, a', b', k', t', d', pq, qr, rs9, sn, hv, hkp, hd', et⟩ := fac_vert hP hq.1 hq.2.2.1 hH hmin
    have hp : 0 < τ 0 20 := by
      rcases hB with hz | hz
      · exact absurd hkp (h0 hz p q r s ⟨pq, qr, rs9, sn⟩ a' b' k' t' d' hv)
      · exact hz.1
    obtain ⟨g1, ⟨a2, b2, k2, e, he, hk⟩, g3⟩ := h1 hp
    refine ⟨hp, ?_⟩
    have n1 := g3 p q r s ⟨pq, qr, rs9, sn⟩ a' b' k' t' d' hv hkp
    obtain ⟨h2, h3⟩ := kpt_hold hP (Int.mul_pos hp he) hk
    have n2 := hmin _ _ h3 (Int.mul_pos hp he) h2
    have hb0 := hq.2.2.1
    refine red_eq hp hb0 g1 hg ?_
    have n3 : τ 0 19 * b ≤ a * τ 0 20 := by
      refine (zc_le hd').mp ?_
      have h5 := Int.mul_le_mul_of_nonneg_right n1 (Int.le_of_lt hb0)
      have e1 : τ 0 19 * b * d' = τ 0 19 * d' * b := by grind
      have e2 : a * τ 0 20 * d' = a * d' * τ 0 20 := by grind
      have e3 : t' * τ 0 20 * b = t' * b * τ 0 20 := by grind
      rw [e1, e2, ← et, ← e3]
      exact h5
    have n4 : a * τ 0 20 ≤ τ 0 19 * b := by
      refine (zc_le he).mp ?_
      have e1 : a * τ 0 20 * e = a * (τ 0 20 * e) := by grind
      have e2 : τ 0 19 * b * e = τ 0 19 * e * b := by grind
      rw [e1, e2]
      exact n2
    omega
