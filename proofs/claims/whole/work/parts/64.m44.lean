/-! the class's answers and the model's: stands, thrust, height, factor, harms, falls, fits -/
theorem bnd_ms {x w : Nat → Int} {n : Nat} (h0 : x 0 = 0) : mo x w n 0 = 0 ∧ mo x w n n = 0 := by
  have h1 : ∀ N, mosum x w (x n) 0 (N + 1) = 0 := by
    intro N
    induction N with
    | zero => rfl
    | succ N ih => rw [mosum_s, ih, if_neg (by omega), h0]; grind
  have h2 : ∀ N, N + 1 ≤ n → mosum x w (x n) n (N + 1) = 0 := by
    intro N
    induction N with
    | zero => intro _; rfl
    | succ N ih =>
      intro hN
      rw [mosum_s, ih (by omega), if_pos (by omega)]
      grind
  unfold mo
  by_cases hn : n = 0
  · subst hn; exact ⟨rfl, rfl⟩
  · have e : n - 1 + 1 = n := by omega
    have a := h1 (n - 1)
    have b := h2 (n - 1) (by omega)
    rw [e] at a b
    exact ⟨a, b⟩
theorem loose_iff {x l u w : Nat → Int} {n : Nat} (hA : AR x l u w n) : (∀ i, i < n + 1 → mo x w n i = 0) ↔ ∀ i j r, i < j → j < r → r ≤ n → ¬ 0 < bnd x (mo x w n) i j r := by
  constructor
  · intro h i j r h1 h2 h3
    unfold bnd rs
    rw [h i (by omega), h j (by omega), h r (by omega)]
    omega
  · intro h i hi
    obtain ⟨z0, zn⟩ := bnd_ms (w := w) (n := n) hA.2.1
    by_cases e0 : i = 0
    · subst e0; exact z0
    · by_cases en : i = n
      · subst en; exact zn
      · have h1 := h 0 i n (by omega) (by omega) (Nat.le_refl n)
        unfold bnd rs at h1
        rw [z0, zn, hA.2.1] at h1
        have h2 := mo_b hA (show i ≤ n by omega)
        have h3 := hA.lt 0 n (by have := hA.1; omega) (Nat.le_refl n)
        rw [hA.2.1] at h3
        by_cases h4 : mo x w n i = 0
        · exact h4
        · have := Int.mul_pos h3 (show 0 < mo x w n i by omega)
          exfalso
          apply h1
          have e : (x n - 0) * mo x w n i - ((x n - x i) * 0 + (x i - 0) * 0) = x n * mo x w n i := by grind
          omega
theorem tm_tr {σ u1 : Nat → Nat → Int} {n cnt k : Nat} (hG : GA σ 5 n u1) (hc : u1 7 1 = (cnt : Int)) (hb : ∀ i j r, i < j → j < r → r ≤ n → 0 ≤ bnd (σ 2) (mo (σ 2) (σ 5) n) i j r) (hH : HPg (σ 2) (σ 3) (σ 4) (mo (σ 2) (σ 5) n) n) (h : TM u1 cnt 1 1 k) (hk : k ≠ 0) :
    0 < 2 * u1 10 k ∧ 0 ≤ u1 8 k + u1 9 k ∧ Tr (σ 2) (σ 3) (σ 4) (mo (σ 2) (σ 5) n) n (u1 8 k + u1 9 k) (2 * u1 10 k) ∧ ∀ K' D', 0 < D' → 0 ≤ K' → Tr (σ 2) (σ 3) (σ 4) (mo (σ 2) (σ 5) n) n K' D' → K' * (2 * u1 10 k) ≤ (u1 8 k + u1 9 k) * D' := by
  obtain ⟨g1, g2⟩ := ga_ent hG hc
  rcases h with h | ⟨h1, h2, h3⟩
  · omega
  · obtain ⟨i, j, r, ⟨ij, jr, rn⟩, e1, e2, e3⟩ := g1 k h1.1 h1.2
    have p1 : u1 8 k + u1 9 k = 2 * rs (σ 2) (σ 4) (σ 3) i j r := by rw [e1, e2]; unfold mid rom; omega
    have b0 : 0 < bnd (σ 2) (mo (σ 2) (σ 5) n) i j r := by rw [← e3]; exact h2
    rw [p1, e3]
    refine ⟨by omega, ?_, HPg.tr hb hH (by omega) (fun i' j' r' a b c d => ?_) (fun i' j' r' a b c d => ?_), fun K' D' _ _ ht => ?_⟩
    · have := hH.2.1 i j r ij jr rn b0; omega
    · have := hH.2.2 i' j' r' i j r a b c d ij jr rn b0
      have q1 : rs (σ 2) (σ 3) (σ 4) i' j' r' * (2 * bnd (σ 2) (mo (σ 2) (σ 5) n) i j r) = 2 * (rs (σ 2) (σ 3) (σ 4) i' j' r' * bnd (σ 2) (mo (σ 2) (σ 5) n) i j r) := by grind
      have q2 : bnd (σ 2) (mo (σ 2) (σ 5) n) i' j' r' * (2 * rs (σ 2) (σ 4) (σ 3) i j r) = 2 * (rs (σ 2) (σ 4) (σ 3) i j r * bnd (σ 2) (mo (σ 2) (σ 5) n) i' j' r') := by grind
      omega
    · obtain ⟨e, f1, f2, f3, f4, f5⟩ := g2 i' j' r' ⟨a, b, c⟩
      have := h3 e f1 f2 (by rw [f5]; exact d)
      unfold mst at this
      rw [e1, e2, e3, f3, f4, f5] at this
      unfold mid rom at this
      have q1 : bnd (σ 2) (mo (σ 2) (σ 5) n) i' j' r' * (2 * rs (σ 2) (σ 4) (σ 3) i j r) = ((rs (σ 2) (σ 3) (σ 4) i j r + rs (σ 2) (σ 4) (σ 3) i j r) * 1 + (rs (σ 2) (σ 4) (σ 3) i j r - rs (σ 2) (σ 3) (σ 4) i j r) * 1) * bnd (σ 2) (mo (σ 2) (σ 5) n) i' j' r' := by grind
      have q2 : rs (σ 2) (σ 4) (σ 3) i' j' r' * (2 * bnd (σ 2) (mo (σ 2) (σ 5) n) i j r) = ((rs (σ 2) (σ 3) (σ 4) i' j' r' + rs (σ 2) (σ 4) (σ 3) i' j' r') * 1 + (rs (σ 2) (σ 4) (σ 3) i' j' r' - rs (σ 2) (σ 3) (σ 4) i' j' r') * 1) * bnd (σ 2) (mo (σ 2) (σ 5) n) i j r := by grind
      rw [q1, q2]
      exact this
    · have := (ht i j r ij jr rn).2
      have q1 : K' * (2 * bnd (σ 2) (mo (σ 2) (σ 5) n) i j r) = 2 * (bnd (σ 2) (mo (σ 2) (σ 5) n) i j r * K') := by grind
      have q2 : 2 * rs (σ 2) (σ 4) (σ 3) i j r * D' = 2 * (rs (σ 2) (σ 4) (σ 3) i j r * D') := by grind
      omega
theorem tl_tr {σ u1 : Nat → Nat → Int} {n cnt k : Nat} (hG : GA σ 5 n u1) (hc : u1 7 1 = (cnt : Int)) (hT : TB u1 cnt) (hb : ∀ i j r, i < j → j < r → r ≤ n → 0 ≤ bnd (σ 2) (mo (σ 2) (σ 5) n) i j r) (hH : HPg (σ 2) (σ 3) (σ 4) (mo (σ 2) (σ 5) n) n) (h : TL u1 cnt 1 1 k) :
    0 < 2 * u1 10 k ∧ 0 ≤ u1 8 k - u1 9 k ∧ Tr (σ 2) (σ 3) (σ 4) (mo (σ 2) (σ 5) n) n (u1 8 k - u1 9 k) (2 * u1 10 k) ∧ ∀ K' D', 0 < D' → 0 ≤ K' → Tr (σ 2) (σ 3) (σ 4) (mo (σ 2) (σ 5) n) n K' D' → (u1 8 k - u1 9 k) * D' ≤ K' * (2 * u1 10 k) := by
  have hb9 := tl_b hT h
  obtain ⟨g1, g2⟩ := ga_ent hG hc
  obtain ⟨h1, h2, h3⟩ := h
  refine ⟨by omega, hb9.1.1, HPg.tr hb hH (by omega) (fun i' j' r' a b c d => ?_) (fun i' j' r' a b c d => ?_), fun K' D' hD' hK' ht => ?_⟩
  · obtain ⟨e, f1, f2, f3, f4, f5⟩ := g2 i' j' r' ⟨a, b, c⟩
    have := h3 e f2 (by rw [f5]; exact d)
    unfold lst at this
    rw [f3, f4, f5] at this
    unfold mid rom at this
    have q1 : rs (σ 2) (σ 3) (σ 4) i' j' r' * (2 * u1 10 k) = ((rs (σ 2) (σ 3) (σ 4) i' j' r' + rs (σ 2) (σ 4) (σ 3) i' j' r') * 1 - (rs (σ 2) (σ 4) (σ 3) i' j' r' - rs (σ 2) (σ 3) (σ 4) i' j' r') * 1) * u1 10 k := by grind
    have q2 : bnd (σ 2) (mo (σ 2) (σ 5) n) i' j' r' * (u1 8 k - u1 9 k) = (u1 8 k * 1 - u1 9 k * 1) * bnd (σ 2) (mo (σ 2) (σ 5) n) i' j' r' := by grind
    rw [q1, q2]
    exact this
  · by_cases k0 : k = 0
    · subst k0
      rw [hT.2.2.1, hT.2.2.2.1, hT.2.2.2.2.1]
      have := hH.2.1 i' j' r' a b c d
      omega
    · obtain ⟨i, j, r, ⟨ij, jr, rn⟩, e1, e2, e3⟩ := g1 k (by omega) h1
      have p1 : u1 8 k - u1 9 k = 2 * rs (σ 2) (σ 3) (σ 4) i j r := by rw [e1, e2]; unfold mid rom; omega
      rw [p1, e3]
      have := hH.2.2 i j r i' j' r' ij jr rn (by rw [← e3]; exact h2) a b c d
      have q1 : bnd (σ 2) (mo (σ 2) (σ 5) n) i' j' r' * (2 * rs (σ 2) (σ 3) (σ 4) i j r) = 2 * (rs (σ 2) (σ 3) (σ 4) i j r * bnd (σ 2) (mo (σ 2) (σ 5) n) i' j' r') := by grind
      have q2 : rs (σ 2) (σ 4) (σ 3) i' j' r' * (2 * bnd (σ 2) (mo (σ 2) (σ 5) n) i j r) = 2 * (rs (σ 2) (σ 4) (σ 3) i' j' r' * bnd (σ 2) (mo (σ 2) (σ 5) n) i j r) := by grind
      omega
  · by_cases k0 : k = 0
    · subst k0
      rw [hT.2.2.1, hT.2.2.2.1, hT.2.2.2.2.1]
      omega
    · obtain ⟨i, j, r, ⟨ij, jr, rn⟩, e1, e2, e3⟩ := g1 k (by omega) h1
      have p1 : u1 8 k - u1 9 k = 2 * rs (σ 2) (σ 3) (σ 4) i j r := by rw [e1, e2]; unfold mid rom; omega
      rw [p1, e3]
      have := (ht i j r ij jr rn).1
      have q1 : K' * (2 * bnd (σ 2) (mo (σ 2) (σ 5) n) i j r) = 2 * (bnd (σ 2) (mo (σ 2) (σ 5) n) i j r * K') := by grind
      have q2 : 2 * rs (σ 2) (σ 3) (σ 4) i j r * D' = 2 * (rs (σ 2) (σ 3) (σ 4) i j r * D') := by grind
      omega
theorem pos_of {a b : Int} (h : 0 < a * b) (hb : 0 < b) : 0 < a := (zc_lt hb).mp (by rw [Int.zero_mul]; exact h)
theorem gcZ_comm {a b : Int} : gcZ a b = gcZ b a := by unfold gcZ; rw [Nat.gcd_comm]
theorem rN_zero {P B : Int} (hB : 0 < B) : rN P B = 0 ↔ P = 0 := by
  obtain ⟨G, g1, g2, g3, g4, g5⟩ := red_f (A := P) hB
  unfold rN
  constructor
  · intro h; rw [h] at g2; omega
  · intro h
    rw [h] at g2 ⊢
    exact (zc_eq g1).mp (by rw [g2]; omega)
theorem thr_fin {P B L κ β z z' pt : Int} (hB : 0 < B) (hL : 0 < L) (hβ : 0 < β) (hP : 0 ≤ P) (e : κ * B = P * L * β) (h : (rN P B = 0 ∧ z = -4) ∨ (rN P B ≠ 0 ∧ ((pt = 0 ∧ z = rN (rD P B) (rN P B * L)) ∨ (pt = 1 ∧ z = rD (rD P B) (rN P B * L))))) (h' : (κ = 0 ∧ z' = -4) ∨ (¬ κ = 0 ∧ ((pt = 0 ∧ z' = β.tdiv (gcZ κ β)) ∨ (pt = 1 ∧ z' = κ.tdiv (gcZ κ β))))) : z = z' := by
  by_cases hP0 : P = 0
  · have k0 : κ = 0 := by
      refine (zc_eq hB).mp ?_
      rw [e, hP0]; grind
    have r0 := (rN_zero hB).mpr hP0
    rcases h with ⟨_, h⟩ | ⟨h, _⟩
    · rcases h' with ⟨_, h'⟩ | ⟨h', _⟩
      · rw [h, h']
      · exact absurd k0 h'
    · exact absurd r0 h
  · have kp : 0 < κ := by
      have h1 := Int.mul_pos (Int.mul_pos (show 0 < P by omega) hL) hβ
      rw [← e] at h1
      exact pos_of h1 hB
    have r0 : ¬ rN P B = 0 := fun hh => hP0 ((rN_zero hB).mp hh)
    obtain ⟨G, g1, g2, g3, g4, g5⟩ := red_f (A := P) hB
    have rp : 0 < rN P B := by
      have h1 : 0 < rN P B * G := by show 0 < P.tdiv (gcZ P B) * G; rw [g2]; omega
      exact pos_of h1 g1
    have key := red_fr (a := rD P B) (b := rN P B * L) (c := β) (d := κ) (Int.mul_pos rp hL) kp (by
      refine (zc_eq g1).mp ?_
      have q1 : rD P B * κ * G = (B.tdiv (gcZ P B) * G) * κ := by unfold rD; grind
      have q2 : β * (rN P B * L) * G = (P.tdiv (gcZ P B) * G) * L * β := by unfold rN; grind
      rw [q1, q2, g2, g3, ← e]; grind)
    have s1 : rN β κ = β.tdiv (gcZ κ β) := by unfold rN; rw [gcZ_comm]
    have s2 : rD β κ = κ.tdiv (gcZ κ β) := by unfold rD; rw [gcZ_comm]
    rcases h with ⟨h, _⟩ | ⟨_, h⟩
    · exact absurd h r0
    · rcases h' with ⟨h', _⟩ | ⟨_, h'⟩
      · omega
      · rcases h with ⟨p0, h⟩ | ⟨p0, h⟩ <;> rcases h' with ⟨p1, h'⟩ | ⟨p1, h'⟩
        · rw [h, h', key.1, s1]
        · omega
        · omega
        · rw [h, h', key.2, s2]
theorem eq_stands {σ τ : Nat → Nat → Int} {n : Nat} {w : Nat → Int} (hA : AR (σ 2) (σ 3) (σ 4) w n) (hL : LI (RF (σ 2) (σ 3) (σ 4) (mo (σ 2) w n) n) (2 * n + 3) (AllT (2 * n + 3)) τ) : τ 0 12 = bZ (HoldP (σ 2) (σ 3) (σ 4) (mo (σ 2) w n) n 1 1) := by
  rcases li_stands hA.pa hL with ⟨h1, h2⟩ | ⟨h1, h2⟩
  · rw [h1, bZ_t (hp_11.mpr h2)]
  · rw [h1, bZ_f (fun h => h2 (hp_11.mp h))]
theorem eq_thrust {σ u1 τ : Nat → Nat → Int} {n cnt : Nat} {wh pt z z' : Int} (hS : HS σ 5 n) (hG : GA σ 5 n u1) (hc : u1 7 1 = (cnt : Int)) (hT : TB u1 cnt) (hL : LI (RF (σ 2) (σ 3) (σ 4) (mo (σ 2) (σ 5) n) n) (2 * n + 3) (AllT (2 * n + 3)) τ) (h : ThC (HoldP (σ 2) (σ 3) (σ 4) (mo (σ 2) (σ 5) n) n 1 1) u1 cnt (σ 2 n) wh pt z) (h' : ThM (∀ i, i < n + 1 → mo (σ 2) (σ 5) n i = 0) τ wh pt z') : z = z' := by
  have hP := hS.2.1.pa
  rw [hp_11] at h
  rcases li_stands hP hL with ⟨s1, s2⟩ | ⟨s1, s2⟩
  · rcases h with ⟨h, _⟩ | ⟨_, k, h, hz⟩
    · exact absurd s2 h
    · rcases h' with ⟨h', _⟩ | ⟨_, κ, β, h', hz'⟩
      · omega
      · rcases h with ⟨w0, h⟩ | ⟨w1, h⟩
        · rcases h' with ⟨_, h', h9⟩ | ⟨w2, _⟩
          · by_cases hlo : ∀ i, i < n + 1 → mo (σ 2) (σ 5) n i = 0
            · have k0 : k = 0 := by
                rcases h with ⟨h, _⟩ | ⟨h1, h2, _⟩
                · exact h
                · obtain ⟨i, j, r, ⟨ij, jr, rn⟩, _, _, e3⟩ := (ga_ent hG hc).1 k h1.1 h1.2
                  exact absurd (by rw [← e3]; exact h2) ((loose_iff hS.2.1).mp hlo i j r ij jr rn)
              rcases hz with ⟨_, hz⟩ | ⟨hz, _⟩
              · rcases hz' with ⟨_, hz'⟩ | ⟨hz', _⟩
                · rw [hz, hz']
                · exact absurd (Or.inl ⟨w0, hlo⟩) hz'
              · exact absurd k0 hz
            · have k0 : k ≠ 0 := by
                intro k0
                rcases h with ⟨_, h⟩ | ⟨h1, _⟩
                · refine hlo ((loose_iff hS.2.1).mpr (fun i j r ij jr rn hb => ?_))
                  obtain ⟨e, f1, f2, _, _, f5⟩ := (ga_ent hG hc).2 i j r ⟨ij, jr, rn⟩
                  exact h e f1 f2 (by rw [f5]; exact hb)
                · omega
              obtain ⟨t1, t2, t3, t4⟩ := tm_tr hG hc hP.2.2.2.1 s2 h k0
              obtain ⟨S, E, qS⟩ := st_ex (sl := fun i => σ 3 i * (2 * u1 10 k) - mo (σ 2) (σ 5) n i * (u1 8 k + u1 9 k)) (sh := fun i => σ 4 i * (2 * u1 10 k) - mo (σ 2) (σ 5) n i * (u1 8 k + u1 9 k)) hP.1 hP.2.1.2
              obtain ⟨T, F, qT⟩ := sl_ex (sl := fun i => σ 3 i * (2 * u1 10 k) - mo (σ 2) (σ 5) n i * (u1 8 k + u1 9 k)) (S := S) (E := E) hP.1 (show 1 ≤ n by have := hP.2.1; omega)
              obtain ⟨b1, _, _, b4⟩ := li_best hP hL s1 t1 t2 t3 t4 qS qT
              have hg : 0 < E * F := Int.mul_pos qS.1 qT.1
              have e9 : κ * (2 * u1 10 k) = (u1 8 k + u1 9 k) * σ 2 n * β := by
                rw [h', h9]
                refine (zc_eq hg).mp ?_
                have q1 : τ 10 2 * (2 * u1 10 k) * (E * F) = τ 10 2 * (2 * u1 10 k * (E * F)) := by grind
                have q2 : (u1 8 k + u1 9 k) * σ 2 n * τ 0 14 * (E * F) = (u1 8 k + u1 9 k) * (E * F) * σ 2 n * τ 0 14 := by grind
                rw [q1, q2, b1]
              rcases hz with ⟨hz, _⟩ | ⟨_, P, B, hP9, hB9, hz⟩
              · exact absurd hz k0
              · rw [if_pos w0] at hP9
                subst hP9 hB9
                refine thr_fin t1 hP.2.2.2.2 (by rw [h9]; exact b4) t2 e9 hz ?_
                rcases hz' with ⟨hz', hz2⟩ | ⟨hz', hz2⟩
                · rcases hz' with hz' | hz'
                  · exact absurd hz'.2 hlo
                  · exact Or.inl ⟨hz', hz2⟩
                · exact Or.inr ⟨fun hh => hz' (Or.inr hh), hz2⟩
          · omega
        · rcases h' with ⟨w2, _⟩ | ⟨_, h', h9⟩
          · omega
          · obtain ⟨t1, t2, t3, t4⟩ := tl_tr hG hc hT hP.2.2.2.1 s2 h
            obtain ⟨b1, b4, _⟩ := li_least hP hL s1 t1 t2 t3 t4
            have e9 : κ * (2 * u1 10 k) = (u1 8 k - u1 9 k) * σ 2 n * β := by rw [h', h9]; exact b1
            have hm : (κ = 0 ∧ z' = -4) ∨ (¬ κ = 0 ∧ ((pt = 0 ∧ z' = β.tdiv (gcZ κ β)) ∨ (pt = 1 ∧ z' = κ.tdiv (gcZ κ β)))) := by
              rcases hz' with ⟨hz', hz2⟩ | ⟨hz', hz2⟩
              · rcases hz' with hz' | hz'
                · omega
                · exact Or.inl ⟨hz', hz2⟩
              · exact Or.inr ⟨fun hh => hz' (Or.inr hh), hz2⟩
            rcases hz with ⟨hz, hz2⟩ | ⟨_, P, B, hP9, hB9, hz⟩
            · have p0 : u1 8 k - u1 9 k = 0 := by rw [hz, hT.2.2.1, hT.2.2.2.1]; rfl
              refine thr_fin t1 hP.2.2.2.2 (by rw [h9]; exact b4) t2 e9 (Or.inl ⟨(rN_zero t1).mpr p0, hz2⟩) hm
            · rw [if_neg (by omega)] at hP9
              subst hP9 hB9
              exact thr_fin t1 hP.2.2.2.2 (by rw [h9]; exact b4) t2 e9 hz hm
  · rcases h with ⟨_, h⟩ | ⟨h, _⟩
    · rcases h' with ⟨_, h'⟩ | ⟨h', _⟩
      · rw [h, h']
      · omega
    · exact absurd h s2
