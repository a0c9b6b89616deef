theorem Tr.sc {x lo hi m : Nat → Int} {n : Nat} {K D G : Int} (hG : 0 < G) : Tr x lo hi m n (K * G) (D * G) ↔ Tr x lo hi m n K D := by
  unfold Tr
  constructor
  · intro h i j r a b c
    have h1 := h i j r a b c
    rw [← Int.mul_assoc, ← Int.mul_assoc, ← Int.mul_assoc] at h1
    exact ⟨(zc_le hG).mp h1.1, (zc_le hG).mp h1.2⟩
  · intro h i j r a b c
    have h1 := h i j r a b c
    rw [← Int.mul_assoc, ← Int.mul_assoc, ← Int.mul_assoc]
    exact ⟨(zc_le hG).mpr h1.1, (zc_le hG).mpr h1.2⟩
theorem eq_height {σ u1 τ : Nat → Nat → Int} {n cnt i : Nat} {pt z z' : Int} (hi : i ≤ n) (hS : HS σ 5 n) (hG : GA σ 5 n u1) (hc : u1 7 1 = (cnt : Int)) (hL : LI (RF (σ 2) (σ 3) (σ 4) (mo (σ 2) (σ 5) n) n) (2 * n + 3) (AllT (2 * n + 3)) τ) (h : HtC (HoldP (σ 2) (σ 3) (σ 4) (mo (σ 2) (σ 5) n) n 1 1) u1 cnt n i pt z)
    (h' : (τ 0 12 = 0 ∧ z' = -1000000000000002) ∨ (τ 0 12 = 1 ∧ (((∀ i, i < n + 1 → mo (σ 2) (σ 5) n i = 0) ∧ z' = -1000000000000004) ∨ (¬ (∀ i, i < n + 1 → mo (σ 2) (σ 5) n i = 0) ∧ ∃ A B, A = τ 10 0 * (σ 2 n - σ 2 i) + τ 10 1 * σ 2 i + τ 10 2 * mo (σ 2) (σ 5) n i ∧ B = τ 0 14 * σ 2 n ∧ ((pt = 0 ∧ z' = A.tdiv (gcZ A B)) ∨ (pt = 1 ∧ z' = B.tdiv (gcZ A B))))))) : z = z' := by
  have hP := hS.2.1.pa
  unfold HtC at h
  rw [hp_11] at h
  rcases li_stands hP hL with ⟨s1, s2⟩ | ⟨s1, s2⟩
  · rcases h with ⟨h, _⟩ | ⟨_, k, h, hz⟩
    · exact absurd s2 h
    · rcases h' with ⟨h', _⟩ | ⟨_, h'⟩
      · omega
      · by_cases hlo : ∀ i, i < n + 1 → mo (σ 2) (σ 5) n i = 0
        · have k0 : k = 0 := by
            rcases h with ⟨h, _⟩ | ⟨h1, h2, _⟩
            · exact h
            · obtain ⟨i, j, r, ⟨ij, jr, rn⟩, _, _, e3⟩ := (ga_ent hG hc).1 k h1.1 h1.2
              exact absurd (by rw [← e3]; exact h2) ((loose_iff hS.2.1).mp hlo i j r ij jr rn)
          rcases hz with ⟨_, hz⟩ | ⟨hz, _⟩
          · rcases h' with ⟨_, h'⟩ | ⟨h', _⟩
            · rw [hz, h']
            · exact absurd hlo h'
          · exact absurd k0 hz
        · have k0 : k ≠ 0 := by
            intro k0
            rcases h with ⟨_, h⟩ | ⟨h1, _⟩
            · refine hlo ((loose_iff hS.2.1).mpr (fun i j r ij jr rn hb => ?_))
              obtain ⟨e, f1, f2, _, _, f5⟩ := (ga_ent hG hc).2 i j r ⟨ij, jr, rn⟩
              exact h e f1 f2 (by rw [f5]; exact hb)
            · omega
          obtain ⟨t1, t2, t3, t4⟩ := tm_tr hG hc hP.2.2.2.1 s2 h k0
          rcases hz with ⟨hz, _⟩ | ⟨_, u3, ⟨u2, hM, hQ⟩, hz⟩
          · exact absurd hz k0
          · rcases h' with ⟨h', _⟩ | ⟨_, A, B, hA, hB, hz'⟩
            · exact absurd h' hlo
            · -- the push without a common divisor
              obtain ⟨G, g1, g2, g3, g4, _⟩ := red_f (A := u1 8 k + u1 9 k) t1
              generalize hpa : (u1 8 k + u1 9 k).tdiv (gcZ (u1 8 k + u1 9 k) (2 * u1 10 k)) = pa at *
              generalize hpb : (2 * u1 10 k).tdiv (gcZ (u1 8 k + u1 9 k) (2 * u1 10 k)) = pb at *
              rw [← g2, ← g3] at t3
              have t5 := (Tr.sc g1).mp t3
              have p0 : 0 ≤ pa := (zc_le g1).mp (by rw [g2]; omega)
              have t6 : ∀ K' D', 0 < D' → 0 ≤ K' → Tr (σ 2) (σ 3) (σ 4) (mo (σ 2) (σ 5) n) n K' D' → K' * pb ≤ pa * D' := by
                intro K' D' a1 a2 a3
                have h5 := t4 K' D' a1 a2 a3
                rw [← g2, ← g3] at h5
                refine (zc_le g1).mp ?_
                have q1 : K' * pb * G = K' * (pb * G) := by grind
                have q2 : pa * D' * G = pa * G * D' := by grind
                rw [q1, q2]; exact h5
              -- what the class keeps of its line
              have hne : ∀ c, c ≠ 11 → c ≠ 24 → lyP (redP u1 24 (u1 8 k + u1 9 k) (2 * u1 10 k)) c = u1 c := by
                intro c h11 h24
                unfold lyP
                rw [up_c h11, up_c h11, redP_c h24]
              have l1 : lyP (redP u1 24 (u1 8 k + u1 9 k) (2 * u1 10 k)) 11 1 = pa := by
                unfold lyP
                rw [up_k (by decide), up_s, redP_0, hpa]
              have l2 : lyP (redP u1 24 (u1 8 k + u1 9 k) (2 * u1 10 k)) 11 2 = pb := by
                unfold lyP
                rw [up_s, redP_1, hpb]
              have v2 : u1 2 = σ 2 := hG.1.1 2 (by decide) (by decide) (by decide) (by decide) (by decide)
              have v3 : u1 3 = σ 3 := hG.1.1 3 (by decide) (by decide) (by decide) (by decide) (by decide)
              have v4 : u1 4 = σ 4 := hG.1.1 4 (by decide) (by decide) (by decide) (by decide) (by decide)
              have v6 : ∀ j, j ≤ n → u1 6 j = mo (σ 2) (σ 5) n j := hG.2.1
              obtain ⟨⟨a1, a2⟩, ⟨_, a4, _⟩, a6, a7, a8⟩ := hM
              obtain ⟨⟨c1, c2⟩, ⟨_, c4, _⟩, c6, c7⟩ := hQ
              rw [hne 2 (by decide) (by decide), hne 3 (by decide) (by decide), hne 4 (by decide) (by decide), hne 6 (by decide) (by decide), l1, l2, v2, v3, v4] at a7 a8
              rw [hne 3 (by decide) (by decide), hne 6 (by decide) (by decide), l1, l2, v3] at a6
              have w2 : u2 2 = σ 2 := by rw [a1 2 (by decide), hne 2 (by decide) (by decide), v2]
              have w3 : u2 3 = σ 3 := by rw [a1 3 (by decide), hne 3 (by decide) (by decide), v3]
              have w6 : u2 6 = u1 6 := by rw [a1 6 (by decide), hne 6 (by decide) (by decide)]
              have w11 : u2 11 1 = pa := by rw [a2 1 (by decide) (by decide), l1]
              have w12 : u2 11 2 = pb := by rw [a2 2 (by decide) (by decide), l2]
              rw [w2, w3, w6, w11, w12] at c6 c7
              have x2 : u3 2 = σ 2 := by rw [c1 2 (by decide), w2]
              have x6 : u3 6 = u1 6 := by rw [c1 6 (by decide), w6]
              have x1 : u3 11 1 = pa := by rw [c2 1 (by decide) (by decide), w11]
              have x3 : u3 11 2 = pb := by rw [c2 2 (by decide) (by decide), w12]
              have x4 : u3 11 3 = u2 11 3 := c2 3 (by decide) (by decide)
              have x5 : u3 11 4 = u2 11 4 := c2 4 (by decide) (by decide)
              unfold sL stA at *
              have qS : StOK (σ 2) (fun i => σ 3 i * pb - mo (σ 2) (σ 5) n i * pa) (fun i => σ 4 i * pb - mo (σ 2) (σ 5) n i * pa) n (u2 11 3) (u2 11 4) := by
                refine ⟨a4, ?_, fun i j b1 b2 b3 => ?_, ?_⟩
                · rw [v6 0 (by omega)] at a6; exact a6
                · have := a7 i j ⟨b1, b2, b3⟩
                  unfold sL at this
                  rw [v6 i (by omega), v6 j (by omega)] at this
                  exact this
                · rcases a8 with a8 | ⟨p, q, ⟨b1, b2, b3⟩, a8, a9⟩
                  · rw [v6 0 (by omega)] at a8; exact Or.inl a8
                  · unfold sL at a8
                    rw [v6 p (by omega), v6 q (by omega)] at a8
                    exact Or.inr ⟨p, q, ⟨b1, b2, b3⟩, a8, a9⟩
              have qT : SlOK (σ 2) (fun i => σ 3 i * pb - mo (σ 2) (σ 5) n i * pa) n (u2 11 3) (u2 11 4) (u3 11 5) (u3 11 6) := by
                refine ⟨c4, fun i b1 b2 => ?_, ?_⟩
                · have := c6 i ⟨b1, b2⟩
                  rw [v6 i (by omega)] at this
                  exact this
                · obtain ⟨j, ⟨b1, b2⟩, c8, c9⟩ := c7
                  rw [v6 j (by omega)] at c8
                  exact ⟨j, ⟨b1, b2⟩, c8, c9⟩
              obtain ⟨b1, b2, b3, b4⟩ := li_best hP hL s1 g4 p0 t5 t6 qS qT
              have hE := qS.1
              have hF := qT.1
              have hden : 0 < hiB u3 := by
                unfold hiB
                rw [x3, x5]
                exact Int.mul_pos (Int.mul_pos g4 hE) hF
              have hB0 : 0 < B := by rw [hB]; exact Int.mul_pos b4 hP.2.2.2.2
              have key := red_fr (a := hiA u3 i) (b := hiB u3) (c := A) (d := B) hden hB0 (by
                unfold hiA hiB
                rw [x1, x2, x3, x4, x5, x6, v6 i hi, hA, hB]
                have q1 : (τ 10 0 * (σ 2 n - σ 2 i) + τ 10 1 * σ 2 i + τ 10 2 * mo (σ 2) (σ 5) n i) * (pb * u2 11 4 * u3 11 6) = (τ 10 0 * (pb * (u2 11 4 * u3 11 6))) * (σ 2 n - σ 2 i) + (τ 10 1 * (pb * (u2 11 4 * u3 11 6))) * σ 2 i + (τ 10 2 * (pb * (u2 11 4 * u3 11 6))) * mo (σ 2) (σ 5) n i := by grind
                rw [q1, b1, b2, b3]
                grind)
              rcases hz with ⟨e0, hz⟩ | ⟨e0, hz⟩ <;> rcases hz' with ⟨e1, hz'⟩ | ⟨e1, hz'⟩
              · rw [hz, hz', key.1]; rfl
              · omega
              · omega
              · rw [hz, hz', key.2]; rfl
  · rcases h with ⟨_, h⟩ | ⟨h, _⟩
    · rcases h' with ⟨_, h'⟩ | ⟨h', _⟩
      · rw [h, h']
      · omega
    · exact absurd h s2
theorem eq_factor {x l u w : Nat → Int} {τ : Nat → Nat → Int} {n : Nat} {pt z z' : Int} (hA : AR x l u w n) (hL : FI (RTf x l u (mo x w n) n) (2 * n + 4) (All4 (2 * n + 4)) τ) (h : FcC x l u (mo x w n) n pt z) (h' : (¬ 0 < τ 0 20 ∧ z' = -4) ∨ (0 < τ 0 20 ∧ ((pt = 0 ∧ z' = τ 0 19) ∨ (pt = 1 ∧ z' = τ 0 20)))) : z = z' := by
  obtain ⟨f1, f2⟩ := fi_factor hA.pa hL
  rcases h with ⟨a, b, hF, hz⟩ | ⟨hN, hz⟩
  · obtain ⟨h1, h2, h3⟩ := f2 a b hF
    rcases h' with ⟨h', _⟩ | ⟨_, hz'⟩
    · exact absurd h1 h'
    · rw [h2, h3] at hz'
      rcases hz with ⟨e0, hz⟩ | ⟨e0, hz⟩ <;> rcases hz' with ⟨e1, hz'⟩ | ⟨e1, hz'⟩ <;> omega
  · rcases h' with ⟨_, hz'⟩ | ⟨h', _⟩
    · rw [hz, hz']
    · exact absurd h' (f1 hN)
theorem ar_w {x l u w w' : Nat → Int} {n : Nat} (h : AR x l u w n) (hw : ∀ i, i ≤ n → 0 ≤ w' i ∧ w' i ≤ 20) : AR x l u w' n := ⟨h.1, h.2.1, h.2.2.1, h.2.2.2.1, h.2.2.2.2.1, hw⟩
theorem morW_b {w : Nat → Int} {n i : Nat} {p : Int} (hw : ∀ i, i ≤ n → 0 ≤ w i ∧ w i ≤ 10) (hp : 1 ≤ p ∧ p ≤ 10) : ∀ j, j ≤ n → 0 ≤ morW w p i j ∧ morW w p i j ≤ 20 := by
  intro j hj
  unfold morW updI
  split
  · rename_i he
    subst he
    have := hw j hj
    omega
  · have := hw j hj
    omega
theorem eq_harms {σ ρ : Nat → Nat → Int} {n : Nat} {p z z' : Int} (hA : AR (σ 2) (σ 3) (σ 4) (σ 5) n) (hw : ∀ i, i ≤ n → 0 ≤ σ 5 i ∧ σ 5 i ≤ 10) (r1 : ρ 1 = σ 2) (r2 : ρ 2 = σ 3) (r3 : ρ 3 = σ 4) (r4 : ρ 4 = σ 5) (h : HrC σ n p z) (h' : HrM ρ n p z') : z = z' := by
  rcases h with ⟨h0, h⟩ | ⟨hp, fa, fb, h⟩
  · rcases h' with ⟨_, h'⟩ | ⟨h', _⟩
    · rw [h, h']
    · exact absurd h' h0
  · rcases h' with ⟨h', _⟩ | ⟨_, ga, gb, h'⟩
    · exact absurd hp h'
    · have hFN : ∀ i u, FN (mor ρ p i) n u → FI (RTf (σ 2) (σ 3) (σ 4) (mo (σ 2) (morW (σ 5) p i) n) n) (2 * n + 4) (All4 (2 * n + 4)) u := by
        intro i u hf
        have e1 : (mor ρ p i) 1 = σ 2 := by rw [show mor ρ p i = up ρ 4 i (ρ 4 i + p) from rfl, up_c (by decide), r1]
        have e2 : (mor ρ p i) 2 = σ 3 := by rw [show mor ρ p i = up ρ 4 i (ρ 4 i + p) from rfl, up_c (by decide), r2]
        have e3 : (mor ρ p i) 3 = σ 4 := by rw [show mor ρ p i = up ρ 4 i (ρ 4 i + p) from rfl, up_c (by decide), r3]
        have e4 : (mor ρ p i) 4 = morW (σ 5) p i := by
          rw [show mor ρ p i = up ρ 4 i (ρ 4 i + p) from rfl]
          unfold up morW
          rw [if_pos rfl, r4]
        have e5 : moM (mor ρ p i) n = mo (σ 2) (morW (σ 5) p i) n := by
          funext j
          unfold moM mo
          rw [e1, e4]
        have hf2 : FI (RTf ((mor ρ p i) 1) ((mor ρ p i) 2) ((mor ρ p i) 3) (moM (mor ρ p i) n) n) (2 * n + 4) (All4 (2 * n + 4)) u := hf
        rw [e1, e2, e3, e5] at hf2
        exact hf2
      have k1 : ∀ i a b a' b', HJc σ n p i a b → HJ ρ n p i a' b' → a' = a ∧ b' = b := by
        intro i a b a' b' q1 ⟨u, q2, q3, q4, _⟩
        have := (fi_factor (ar_w hA (morW_b (i := i) hw hp)).pa (hFN i u q2)).2 a b q1
        omega
      have k2 : ∀ i a b, HJc σ n p i a b → ¬ HN ρ n p i := by
        intro i a b q1 ⟨u, q2, q3⟩
        have := (fi_factor (ar_w hA (morW_b (i := i) hw hp)).pa (hFN i u q2)).2 a b q1
        exact q3 this.1
      have k3 : ∀ i a b, HNc σ n p i → ¬ HJ ρ n p i a b := by
        intro i a b q1 ⟨u, q2, _, q4, q5⟩
        have := (fi_factor (ar_w hA (morW_b (i := i) hw hp)).pa (hFN i u q2)).1 q1
        omega
      rcases h with ⟨j, j1, j2, j3, j4, j5⟩ | ⟨h1, j, j1, j2, j3, j4, j5⟩
      · rcases h' with ⟨i, i1, i2, i3, i4, i5⟩ | ⟨g1, _⟩
        · rcases Nat.lt_trichotomy i j with hl | hl | hl
          · exact absurd i4 (k2 i _ _ (j3 i i1 hl))
          · rw [j5, i5, hl]
          · exact absurd (i3 j j1 hl) (k3 j _ _ j4)
        · exact absurd (g1 j j1 j2) (k3 j _ _ j4)
      · rcases h' with ⟨i, i1, i2, i3, i4, i5⟩ | ⟨g1, i, i1, i2, i3, i4, i5⟩
        · exact absurd i4 (k2 i _ _ (h1 i i1 i2))
        · have ke : ∀ i, 1 ≤ i → i < n → ga i = fa i ∧ gb i = fb i := fun i q1 q2 => k1 i _ _ _ _ (h1 i q1 q2) (g1 i q1 q2)
          rcases Nat.lt_trichotomy i j with hl | hl | hl
          · have q1 := j5 i i1 hl
            have q2 := i4 j j1 j2
            rw [(ke j j1 j2).1, (ke j j1 j2).2, (ke i i1 i2).1, (ke i i1 i2).2] at q2
            omega
          · rw [j3, i3, hl]
          · have q1 := i5 j j1 hl
            have q2 := j4 i i1 i2
            rw [(ke j j1 j2).1, (ke j j1 j2).2, (ke i i1 i2).1, (ke i i1 i2).2] at q1
            omega
theorem laid_b {w : Nat → Int} {n s : Nat} (hw : ∀ i, i ≤ n → 0 ≤ w i ∧ w i ≤ 20) : ∀ j, j ≤ n → 0 ≤ laidW n s w j ∧ laidW n s w j ≤ 20 := by
  intro j hj
  have := hw j hj
  unfold laidW
  split
  · split <;> omega
  · exact this
theorem eq_falls {σ ρ : Nat → Nat → Int} {n : Nat} {z z' : Int} (hA : AR (σ 2) (σ 3) (σ 4) (σ 5) n) (r1 : ρ 1 = σ 2) (r2 : ρ 2 = σ 3) (r3 : ρ 3 = σ 4) (r4 : ρ 4 = σ 5) (h : FlC σ n z) (h' : FlM ρ n z') : z = z' := by
  have key : ∀ s v, StS (laid ρ n s) n v → v = bZ (HL σ n s) := by
    intro s v ⟨u, q1, q2⟩
    have e1 : (laid ρ n s) 1 = σ 2 := by show upf ρ 4 _ 1 = _; unfold upf; rw [if_neg (by decide), r1]
    have e2 : (laid ρ n s) 2 = σ 3 := by show upf ρ 4 _ 2 = _; unfold upf; rw [if_neg (by decide), r2]
    have e3 : (laid ρ n s) 3 = σ 4 := by show upf ρ 4 _ 3 = _; unfold upf; rw [if_neg (by decide), r3]
    have e4 : (laid ρ n s) 4 = laidW n s (σ 5) := by show upf ρ 4 _ 4 = _; unfold upf; rw [if_pos rfl, r4]
    have e5 : moM (laid ρ n s) n = mo (σ 2) (laidW n s (σ 5)) n := by
      funext j
      unfold moM mo
      rw [e1, e4]
    have q3 : LI (RF ((laid ρ n s) 1) ((laid ρ n s) 2) ((laid ρ n s) 3) (moM (laid ρ n s) n) n) (2 * n + 3) (AllT (2 * n + 3)) u := q1
    rw [e1, e2, e3, e5] at q3
    rw [← q2]
    exact eq_stands (ar_w hA (laid_b hA.2.2.2.2.2)) q3
  have t : ∀ s, StS (laid ρ n s) n 1 → HL σ n s := fun s hs => Classical.byContradiction fun hh => by
    have := key s 1 hs
    rw [bZ_f hh] at this
    omega
  have f : ∀ s, StS (laid ρ n s) n 0 → ¬ HL σ n s := fun s hs hh => by
    have := key s 0 hs
    rw [bZ_t hh] at this
    omega
  rcases h with ⟨s, s1, s2, s3, s4⟩ | ⟨s1, s2⟩
  · rcases h' with ⟨i, i1, i2, i3, i4⟩ | ⟨i1, i2⟩
    · rcases Nat.lt_trichotomy i s with hl | hl | hl
      · exact absurd (s2 i hl) (f i i3)
      · rw [s4, i4, hl]
      · exact absurd (t s (i2 s hl)) s3
    · exact absurd (t s (i1 s s1)) s3
  · rcases h' with ⟨i, i1, i2, i3, i4⟩ | ⟨i1, i2⟩
    · exact absurd (s1 i i1) (f i i3)
    · rw [s2, i2]
theorem eq_fits {x l u m : Nat → Int} {n : Nat} {a b k d : Int} (hk : 0 ≤ k) : (∀ i, i ≤ n → FtI x l u m n a b k d i) ↔ KpF (RF x l u m n) (2 * n + 3) (a * d) (b * d) k d := by
  rw [kpf_iff]
  unfold FtI
  have e : ∀ i, (a * (x n - x i) + b * x i) * d + m i * k = (x n - x i) * (a * d) + x i * (b * d) + m i * k := fun i => by grind
  have e1 : ∀ i, l i * x n * d = x n * l i * d := fun i => by grind
  have e2 : ∀ i, u i * x n * d = x n * u i * d := fun i => by grind
  simp only [e, e1, e2]
  exact ⟨fun h => ⟨h, hk⟩, fun h => h.1⟩
