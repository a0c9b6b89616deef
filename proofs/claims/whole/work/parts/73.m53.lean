/-! what the class and the model share, call by call -/
def SHR (σ ρ : Nat → Nat → Int) : Prop := HSh σ ∧ (∀ s, s < 4 → ρ 5 s = lnC σ s ∧ ρ 6 s = szC σ s) ∧ ∀ s, s < 4 → ∀ j, j < 28 → ρ 7 (28 * s + j) = σ (15 + s + 4) j ∧ I32 (σ (15 + s + 4) j)
def ARW (x l u w : Nat → Int) (n : Nat) : Prop := AR x l u w n ∧ ∀ i, i ≤ n → 0 ≤ w i ∧ w i ≤ 10
def INV (σ ρ : Nat → Nat → Int) (nn : Nat) : Prop := ARW (σ 2) (σ 3) (σ 4) (σ 5) nn ∧ (σ 1 0 = (nn : Int) ∧ ρ 0 0 = (nn : Int)) ∧ (σ 8 0 = 0 ∧ σ 9 0 = 0 ∧ σ 10 0 = 1) ∧ (ρ 1 = σ 2 ∧ ρ 2 = σ 3 ∧ ρ 3 = σ 4 ∧ ρ 4 = σ 5) ∧ SHR σ ρ
theorem INV.hs {σ ρ : Nat → Nat → Int} {nn : Nat} (h : INV σ ρ nn) : HS σ 5 nn := ⟨h.2.1.1, h.1.1, h.2.2.1⟩
theorem INV.n {σ ρ : Nat → Nat → Int} {nn : Nat} (h : INV σ ρ nn) : 2 ≤ nn ∧ nn ≤ 6 := h.1.1.1
theorem INV.moe {σ ρ : Nat → Nat → Int} {nn : Nat} (h : INV σ ρ nn) : moM ρ nn = mo (σ 2) (σ 5) nn := by
  funext i
  unfold moM mo
  rw [h.2.2.2.1.1, h.2.2.2.1.2.2.2]
theorem am_of {ρ : Nat → Nat → Int} {x l u w : Nat → Int} {nn : Nat} (hA : AR x l u w nn) (h0 : ρ 0 0 = (nn : Int)) (h1 : ρ 1 = x) (h2 : ρ 2 = l) (h3 : ρ 3 = u) (h4 : ρ 4 = w) : AMb ρ nn := by
  refine ⟨h0, hA.1.1, hA.1.2, by rw [h1]; exact hA.x, by rw [h2, h3]; exact hA.2.2.2.2.1, fun i hi => ?_⟩
  unfold moM
  rw [h1, h4]
  have := mo_b hA hi
  unfold mo at this
  exact ⟨by omega, this.2⟩
theorem INV.am {σ ρ : Nat → Nat → Int} {nn : Nat} (h : INV σ ρ nn) : AMb ρ nn := am_of h.1.1 h.2.1.2 h.2.2.2.1.1 h.2.2.2.1.2.1 h.2.2.2.1.2.2.1 h.2.2.2.1.2.2.2
theorem SHR.ln {σ ρ : Nat → Nat → Int} (h : SHR σ ρ) : ∀ s, s < 4 → -1 ≤ ρ 5 s ∧ ρ 5 s ≤ 2 := by
  intro s hs
  rw [(h.2.1 s hs).1]
  have := (h.1 s hs).2.1
  unfold lnC
  split <;> omega
theorem SHR.sz {σ ρ : Nat → Nat → Int} (h : SHR σ ρ) : ∀ s, s < 4 → 0 ≤ ρ 6 s ∧ ρ 6 s ≤ 28 := by
  intro s hs
  rw [(h.2.1 s hs).2]
  exact (h.1 s hs).2.2
theorem SHR.it {σ ρ : Nat → Nat → Int} (h : SHR σ ρ) : ∀ j, j < 112 → I32 (ρ 7 j) := by
  intro j hj
  have := h.2.2 (j / 28) (by omega) (j % 28) (by omega)
  rw [show 28 * (j / 28) + j % 28 = j by omega] at this
  rw [this.1]
  exact this.2
/-- a change that both sides' sheets don't see -/
theorem SHR.cg {σ ρ u v : Nat → Nat → Int} (h : SHR σ ρ) (h1 : ∀ c, 15 ≤ c → c ≤ 22 → u c = σ c) (h2 : v 5 = ρ 5) (h3 : v 6 = ρ 6) (h4 : v 7 = ρ 7) : SHR u v := by
  refine ⟨fun s hs => ?_, fun s hs => ?_, fun s hs j hj => ?_⟩
  · rw [h1 (15 + s) (by omega) (by omega)]; exact h.1 s hs
  · unfold lnC szC
    rw [h1 (15 + s) (by omega) (by omega), h2, h3]; exact h.2.1 s hs
  · rw [h1 (15 + s + 4) (by omega) (by omega), h4]; exact h.2.2 s hs j hj
theorem INV.q {σ ρ u v : Nat → Nat → Int} {nn : Nat} (h : INV σ ρ nn) (hu : FrC σ u) (hv : Core ρ v) : INV u v nn := by
  refine ⟨?_, ⟨?_, ?_⟩, ⟨?_, ?_, ?_⟩, ⟨?_, ?_, ?_, ?_⟩, h.2.2.2.2.cg (fun c h1 h2 => hu.1 c (Or.inr ⟨h1, h2⟩)) (hv.1 5 (by decide) (by decide)) (hv.1 6 (by decide) (by decide)) (hv.1 7 (by decide) (by decide))⟩
  · rw [hu.1 2 (by omega), hu.1 3 (by omega), hu.1 4 (by omega), hu.1 5 (by omega)]; exact h.1
  · rw [hu.1 1 (by omega)]; exact h.2.1.1
  · rw [hv.2]; exact h.2.1.2
  · rw [hu.2.1]; exact h.2.2.1.1
  · rw [hu.2.2.1]; exact h.2.2.1.2.1
  · rw [hu.2.2.2]; exact h.2.2.1.2.2
  · rw [hv.1 1 (by decide) (by decide), hu.1 2 (by omega)]; exact h.2.2.2.1.1
  · rw [hv.1 2 (by decide) (by decide), hu.1 3 (by omega)]; exact h.2.2.2.1.2.1
  · rw [hv.1 3 (by decide) (by decide), hu.1 4 (by omega)]; exact h.2.2.2.1.2.2.1
  · rw [hv.1 4 (by decide) (by decide), hu.1 5 (by omega)]; exact h.2.2.2.1.2.2.2
/-- a new arch on both sides -/
theorem INV.arch {σ ρ u v : Nat → Nat → Int} {nn n' : Nat} (h : INV σ ρ nn) (hA : ARW (u 2) (u 3) (u 4) (u 5) n') (h1 : u 1 0 = (n' : Int)) (h2 : v 0 0 = (n' : Int)) (e1 : v 1 = u 2) (e2 : v 2 = u 3) (e3 : v 3 = u 4) (e4 : v 4 = u 5) (hu : ∀ c, 8 ≤ c → u c = σ c) (hv : ∀ c, 5 ≤ c → v c = ρ c) : INV u v n' := by
  refine ⟨hA, ⟨h1, h2⟩, ⟨?_, ?_, ?_⟩, ⟨e1, e2, e3, e4⟩, h.2.2.2.2.cg (fun c h1 h2 => hu c (by omega)) (hv 5 (by decide)) (hv 6 (by decide)) (hv 7 (by decide))⟩
  · rw [hu 8 (by decide)]; exact h.2.2.1.1
  · rw [hu 9 (by decide)]; exact h.2.2.1.2.1
  · rw [hu 10 (by decide)]; exact h.2.2.1.2.2
theorem upf_s {σ : Nat → Nat → Int} {c : Nat} {f : Nat → Int} : upf σ c f c = f := by unfold upf; rw [if_pos rfl]
theorem upf_c {σ : Nat → Nat → Int} {c c' : Nat} {f : Nat → Int} (h : c' ≠ c) : upf σ c f c' = σ c' := by unfold upf; rw [if_neg h]
theorem bgX_lt {n : Nat} (h2 : 2 ≤ n) (h6 : n ≤ 6) {x : Nat → Int} : bgX n x 0 = 0 ∧ (∀ i, i < n → bgX n x i < bgX n x (i + 1)) ∧ bgX n x n ≤ 20 := by
  have e : ∀ j : Nat, j ≤ n → bgX n x j = 20 * (j : Int) / n := by
    intro j hj
    unfold bgX
    rw [if_pos hj]
    exact Int.tdiv_eq_ediv_of_nonneg (by omega)
  refine ⟨by rw [e 0 (by omega)]; simp, fun i hi => ?_, ?_⟩
  · rw [e i (by omega), e (i + 1) (by omega)]
    rcases (show n = 2 ∨ n = 3 ∨ n = 4 ∨ n = 5 ∨ n = 6 by omega) with rfl | rfl | rfl | rfl | rfl <;> omega
  · rw [e n (Nat.le_refl n)]
    rcases (show n = 2 ∨ n = 3 ∨ n = 4 ∨ n = 5 ∨ n = 6 by omega) with rfl | rfl | rfl | rfl | rfl <;> omega
theorem arw_begin {n : Nat} (h2 : 2 ≤ n) (h6 : n ≤ 6) {x l u w : Nat → Int} : ARW (bgX n x) (bgC n 0 l) (bgC n 1 u) (bgC n 0 w) n := by
  obtain ⟨a, b, c⟩ := bgX_lt h2 h6 (x := x)
  have e : ∀ (z : Int) (f : Nat → Int) (i : Nat), i ≤ n → bgC n z f i = z := fun z f i hi => by unfold bgC; rw [if_pos hi]
  refine ⟨⟨⟨h2, h6⟩, a, b, c, fun i hi => ?_, fun i hi => ?_⟩, fun i hi => ?_⟩
  · rw [e 0 l i hi, e 1 u i hi]; decide
  · rw [e 0 w i hi]; decide
  · rw [e 0 w i hi]; decide
theorem bgC_at {σ : Nat → Nat → Int} {n : Nat} : bgS σ 1 0 2 3 4 5 n 1 0 = (n : Int) ∧ bgS σ 1 0 2 3 4 5 n 2 = bgX n (σ 2) ∧ bgS σ 1 0 2 3 4 5 n 3 = bgC n 0 (σ 3) ∧ bgS σ 1 0 2 3 4 5 n 4 = bgC n 1 (σ 4) ∧ bgS σ 1 0 2 3 4 5 n 5 = bgC n 0 (σ 5) ∧ ∀ c, 6 ≤ c → bgS σ 1 0 2 3 4 5 n c = σ c := by
  unfold bgS
  refine ⟨?_, ?_, ?_, ?_, upf_s, fun c hc => ?_⟩
  · rw [upf_c (by decide), upf_c (by decide), upf_c (by decide), upf_c (by decide), up_s]
  · rw [upf_c (by decide), upf_c (by decide), upf_c (by decide), upf_s]
  · rw [upf_c (by decide), upf_c (by decide), upf_s]
  · rw [upf_c (by decide), upf_s]
  · rw [upf_c (by omega), upf_c (by omega), upf_c (by omega), upf_c (by omega), up_c (by omega)]
theorem bgM_at {σ : Nat → Nat → Int} {n : Nat} : bgS σ 0 0 1 2 3 4 n 0 0 = (n : Int) ∧ bgS σ 0 0 1 2 3 4 n 1 = bgX n (σ 1) ∧ bgS σ 0 0 1 2 3 4 n 2 = bgC n 0 (σ 2) ∧ bgS σ 0 0 1 2 3 4 n 3 = bgC n 1 (σ 3) ∧ bgS σ 0 0 1 2 3 4 n 4 = bgC n 0 (σ 4) ∧ ∀ c, 5 ≤ c → bgS σ 0 0 1 2 3 4 n c = σ c := by
  unfold bgS
  refine ⟨?_, ?_, ?_, ?_, upf_s, fun c hc => ?_⟩
  · rw [upf_c (by decide), upf_c (by decide), upf_c (by decide), upf_c (by decide), up_s]
  · rw [upf_c (by decide), upf_c (by decide), upf_c (by decide), upf_s]
  · rw [upf_c (by decide), upf_c (by decide), upf_s]
  · rw [upf_c (by decide), upf_s]
  · rw [upf_c (by omega), upf_c (by omega), upf_c (by omega), upf_c (by omega), up_c (by omega)]
theorem INV.begin {σ ρ : Nat → Nat → Int} {nn n : Nat} (h : INV σ ρ nn) (h2 : 2 ≤ n) (h6 : n ≤ 6) : INV (bgS σ 1 0 2 3 4 5 n) (bgS ρ 0 0 1 2 3 4 n) n := by
  obtain ⟨a1, a2, a3, a4, a5, a6⟩ := bgC_at (σ := σ) (n := n)
  obtain ⟨b1, b2, b3, b4, b5, b6⟩ := bgM_at (σ := ρ) (n := n)
  refine h.arch ?_ a1 b1 ?_ ?_ ?_ ?_ (fun c hc => a6 c (by omega)) b6
  · rw [a2, a3, a4, a5]; exact arw_begin h2 h6
  · rw [b2, a2, h.2.2.2.1.1]
  · rw [b3, a3, h.2.2.2.1.2.1]
  · rw [b4, a4, h.2.2.2.1.2.2.1]
  · rw [b5, a5, h.2.2.2.1.2.2.2]
theorem pr_joints {σ ρ u v : Nat → Nat → Int} {nn : Nat} {na z z' : Int} (h : INV σ ρ nn) (hc : (¬ (2 ≤ na ∧ na ≤ 6) ∧ z = -1 ∧ u = σ) ∨ ((2 ≤ na ∧ na ≤ 6) ∧ z = 1 ∧ u = bgS σ 1 0 2 3 4 5 na.toNat)) (hm : (¬ (2 ≤ na ∧ na ≤ 6) ∧ z' = -1 ∧ v = ρ) ∨ ((2 ≤ na ∧ na ≤ 6) ∧ z' = 1 ∧ v = bgS ρ 0 0 1 2 3 4 na.toNat)) : z = z' ∧ ∃ n', INV u v n' := by
  rcases hc with ⟨c1, c2, rfl⟩ | ⟨c1, c2, rfl⟩ <;> rcases hm with ⟨m1, m2, rfl⟩ | ⟨m1, m2, rfl⟩
  · exact ⟨by omega, nn, h⟩
  · omega
  · omega
  · exact ⟨by omega, _, h.begin (by omega) (by omega)⟩
theorem arw_at {x l u w : Nat → Int} {n : Nat} {i v : Int} (h : ARW x l u w n) : ARW (atF n x i v).2 l u w n := by
  unfold atF
  split
  · exact h
  · rename_i h1
    split
    · exact h
    · rename_i h2
      have h3 : (1 ≤ i ∧ i ≤ (n : Int)) ∧ (0 ≤ v ∧ v ≤ 20) := Classical.byContradiction h1
      obtain ⟨k, rfl⟩ : ∃ k : Nat, i = (k : Int) := ⟨i.toNat, by omega⟩
      have e1 : ((k : Int) - 1).toNat = k - 1 := by omega
      have e2 : ((k : Int) + 1).toNat = k + 1 := by omega
      rw [e1, e2] at h2
      simp only [Int.toNat_natCast]
      have g1 : x (k - 1) < v := by
        have : ¬ v ≤ x (k - 1) := fun hh => h2 (Or.inl hh)
        omega
      have g2 : k < n → v < x (k + 1) := fun hk => by
        have : ¬ x (k + 1) ≤ v := fun hh => h2 (Or.inr ⟨by omega, hh⟩)
        omega
      obtain ⟨⟨a1, a2, a3, a4, a5, a6⟩, a7⟩ := h
      refine ⟨⟨a1, ?_, fun j hj => ?_, ?_, a5, a6⟩, a7⟩
      · show updI x k v 0 = 0
        unfold updI
        rw [if_neg (by omega)]; exact a2
      · show updI x k v j < updI x k v (j + 1)
        unfold updI
        by_cases c1 : j = k
        · subst c1
          rw [if_pos rfl, if_neg (by omega)]
          exact g2 hj
        · rw [if_neg c1]
          by_cases c2 : j + 1 = k
          · subst c2
            rw [if_pos rfl]
            exact g1
          · rw [if_neg c2]
            exact a3 j hj
      · show updI x k v n ≤ 20
        unfold updI
        split
        · omega
        · exact a4
theorem pr_at {σ ρ u v : Nat → Nat → Int} {nn : Nat} {ia va z z' : Int} (h : INV σ ρ nn) (hc : z = (atF nn (σ 2) ia va).1 ∧ u = upf σ 2 (atF nn (σ 2) ia va).2) (hm : z' = (atF nn (ρ 1) ia va).1 ∧ v = upf ρ 1 (atF nn (ρ 1) ia va).2) : z = z' ∧ ∃ n', INV u v n' := by
  obtain ⟨c1, rfl⟩ := hc
  obtain ⟨m1, rfl⟩ := hm
  rw [h.2.2.2.1.1] at m1 ⊢
  refine ⟨by rw [c1, m1], nn, h.arch ?_ ?_ ?_ ?_ ?_ ?_ ?_ (fun c hc => upf_c (by omega)) (fun c hc => upf_c (by omega))⟩
  · rw [upf_s, upf_c (by decide), upf_c (by decide), upf_c (by decide)]; exact arw_at h.1
  · rw [upf_c (by decide)]; exact h.2.1.1
  · rw [upf_c (by decide)]; exact h.2.1.2
  · rw [upf_s, upf_s]
  · rw [upf_c (by decide), upf_c (by decide)]; exact h.2.2.2.1.2.1
  · rw [upf_c (by decide), upf_c (by decide)]; exact h.2.2.2.1.2.2.1
  · rw [upf_c (by decide), upf_c (by decide)]; exact h.2.2.2.1.2.2.2
theorem arw_sp {x l u w : Nat → Int} {n : Nat} {d : Int} (h : ARW x l u w n) : ARW (spF n x d).2 l u w n := by
  unfold spF
  split
  · exact h
  · split
    · exact h
    · rename_i h1 h2
      have h3 : x (n - 1) < x n + d ∧ x n + d ≤ 20 := Classical.byContradiction h2
      obtain ⟨⟨a1, a2, a3, a4, a5, a6⟩, a7⟩ := h
      refine ⟨⟨a1, ?_, fun j hj => ?_, ?_, a5, a6⟩, a7⟩
      · show updI x n (x n + d) 0 = 0
        unfold updI
        rw [if_neg (by omega)]; exact a2
      · show updI x n (x n + d) j < updI x n (x n + d) (j + 1)
        unfold updI
        rw [if_neg (by omega)]
        by_cases c2 : j + 1 = n
        · rw [if_pos c2, show j = n - 1 by omega]
          exact h3.1
        · rw [if_neg c2]
          exact a3 j hj
      · show updI x n (x n + d) n ≤ 20
        unfold updI
        rw [if_pos rfl]
        exact h3.2
theorem pr_spread {σ ρ u v : Nat → Nat → Int} {nn : Nat} {da z z' : Int} (h : INV σ ρ nn) (hc : z = (spF nn (σ 2) da).1 ∧ u = upf σ 2 (spF nn (σ 2) da).2) (hm : z' = (spF nn (ρ 1) da).1 ∧ v = upf ρ 1 (spF nn (ρ 1) da).2) : z = z' ∧ ∃ n', INV u v n' := by
  obtain ⟨c1, rfl⟩ := hc
  obtain ⟨m1, rfl⟩ := hm
  rw [h.2.2.2.1.1] at m1 ⊢
  refine ⟨by rw [c1, m1], nn, h.arch ?_ ?_ ?_ ?_ ?_ ?_ ?_ (fun c hc => upf_c (by omega)) (fun c hc => upf_c (by omega))⟩
  · rw [upf_s, upf_c (by decide), upf_c (by decide), upf_c (by decide)]; exact arw_sp h.1
  · rw [upf_c (by decide)]; exact h.2.1.1
  · rw [upf_c (by decide)]; exact h.2.1.2
  · rw [upf_s, upf_s]
  · rw [upf_c (by decide), upf_c (by decide)]; exact h.2.2.2.1.2.1
  · rw [upf_c (by decide), upf_c (by decide)]; exact h.2.2.2.1.2.2.1
  · rw [upf_c (by decide), upf_c (by decide)]; exact h.2.2.2.1.2.2.2
theorem arw_ed {x l u w : Nat → Int} {n : Nat} {i a b : Int} (h : ARW x l u w n) : ARW x (edF n l u i a b).2.1 (edF n l u i a b).2.2 w n := by
  unfold edF
  split
  · exact h
  · rename_i h1
    have h3 : (0 ≤ i ∧ i ≤ (n : Int)) ∧ (-20 ≤ a ∧ a ≤ b ∧ b ≤ 20) := Classical.byContradiction h1
    obtain ⟨⟨a1, a2, a3, a4, a5, a6⟩, a7⟩ := h
    refine ⟨⟨a1, a2, a3, a4, fun j hj => ?_, a6⟩, a7⟩
    show -20 ≤ updI l i.toNat a j ∧ updI l i.toNat a j ≤ updI u i.toNat b j ∧ updI u i.toNat b j ≤ 20
    unfold updI
    split
    · exact h3.2
    · exact a5 j hj
theorem pr_edges {σ ρ u v : Nat → Nat → Int} {nn : Nat} {ia la ua z z' : Int} (h : INV σ ρ nn) (hc : z = (edF nn (σ 3) (σ 4) ia la ua).1 ∧ u = upf (upf σ 3 (edF nn (σ 3) (σ 4) ia la ua).2.1) 4 (edF nn (σ 3) (σ 4) ia la ua).2.2) (hm : z' = (edF nn (ρ 2) (ρ 3) ia la ua).1 ∧ v = upf (upf ρ 2 (edF nn (ρ 2) (ρ 3) ia la ua).2.1) 3 (edF nn (ρ 2) (ρ 3) ia la ua).2.2) : z = z' ∧ ∃ n', INV u v n' := by
  obtain ⟨c1, rfl⟩ := hc
  obtain ⟨m1, rfl⟩ := hm
  rw [h.2.2.2.1.2.1, h.2.2.2.1.2.2.1] at m1 ⊢
  refine ⟨by rw [c1, m1], nn, h.arch ?_ ?_ ?_ ?_ ?_ ?_ ?_ (fun c hc => by rw [upf_c (by omega), upf_c (by omega)]) (fun c hc => by rw [upf_c (by omega), upf_c (by omega)])⟩
  · rw [upf_s, upf_c (show 2 ≠ 4 by decide), upf_c (show 2 ≠ 3 by decide), upf_c (show 3 ≠ 4 by decide), upf_s, upf_c (show 5 ≠ 4 by decide), upf_c (show 5 ≠ 3 by decide)]; exact arw_ed h.1
  · rw [upf_c (by decide), upf_c (by decide)]; exact h.2.1.1
  · rw [upf_c (by decide), upf_c (by decide)]; exact h.2.1.2
  · rw [upf_c (by decide), upf_c (by decide), upf_c (by decide), upf_c (by decide)]; exact h.2.2.2.1.1
  · rw [upf_c (show 2 ≠ 3 by decide), upf_s, upf_c (show 3 ≠ 4 by decide), upf_s]
  · rw [upf_s, upf_s]
  · rw [upf_c (by decide), upf_c (by decide), upf_c (by decide), upf_c (by decide)]; exact h.2.2.2.1.2.2.2
theorem arw_ld {x l u w : Nat → Int} {n : Nat} {i v : Int} (h : ARW x l u w n) : ARW x l u (ldF n w i v).2 n := by
  unfold ldF
  split
  · exact h
  · rename_i h1
    have h3 : (1 ≤ i ∧ i < (n : Int)) ∧ (0 ≤ v ∧ v ≤ 10) := Classical.byContradiction h1
    obtain ⟨⟨a1, a2, a3, a4, a5, a6⟩, a7⟩ := h
    have k : ∀ j, j ≤ n → 0 ≤ updI w i.toNat v j ∧ updI w i.toNat v j ≤ 10 := by
      intro j hj
      unfold updI
      split
      · exact h3.2
      · exact a7 j hj
    exact ⟨⟨a1, a2, a3, a4, a5, fun j hj => ⟨(k j hj).1, by have := (k j hj).2; show updI w i.toNat v j ≤ 20; omega⟩⟩, k⟩
theorem pr_load {σ ρ u v : Nat → Nat → Int} {nn : Nat} {ia wa z z' : Int} (h : INV σ ρ nn) (hc : z = (ldF nn (σ 5) ia wa).1 ∧ u = upf σ 5 (ldF nn (σ 5) ia wa).2) (hm : z' = (ldF nn (ρ 4) ia wa).1 ∧ v = upf ρ 4 (ldF nn (ρ 4) ia wa).2) : z = z' ∧ ∃ n', INV u v n' := by
  obtain ⟨c1, rfl⟩ := hc
  obtain ⟨m1, rfl⟩ := hm
  rw [h.2.2.2.1.2.2.2] at m1 ⊢
  refine ⟨by rw [c1, m1], nn, h.arch ?_ ?_ ?_ ?_ ?_ ?_ ?_ (fun c hc => upf_c (by omega)) (fun c hc => upf_c (by omega))⟩
  · rw [upf_s, upf_c (by decide), upf_c (by decide), upf_c (by decide)]; exact arw_ld h.1
  · rw [upf_c (by decide)]; exact h.2.1.1
  · rw [upf_c (by decide)]; exact h.2.1.2
  · rw [upf_c (by decide), upf_c (by decide)]; exact h.2.2.2.1.1
  · rw [upf_c (by decide), upf_c (by decide)]; exact h.2.2.2.1.2.1
  · rw [upf_c (by decide), upf_c (by decide)]; exact h.2.2.2.1.2.2.1
  · rw [upf_s, upf_s]
theorem itC_cg {a b a' b' : Nat → Int} {s l i : Int} (h : ∀ s, s < 4 → a' s = a s ∧ b' s = b s) : itC a' b' s l i = itC a b s l i := by
  unfold itC
  by_cases h1 : ¬ ((0 ≤ s ∧ s ≤ 3) ∧ (0 ≤ l ∧ l ≤ 2))
  · rw [if_pos h1, if_pos h1]
  · rw [if_neg h1, if_neg h1, (h s.toNat (by omega)).1, (h s.toNat (by omega)).2]
theorem itR_cg {a b a' b' : Nat → Int} {n : Nat} {s l i : Int} (h : ∀ s, s < 4 → a' s = a s ∧ b' s = b s) : itR a' b' n s l i = itR a b n s l i := by
  unfold itR
  by_cases h1 : ¬ ((0 ≤ s ∧ s ≤ 3) ∧ (0 ≤ l ∧ l ≤ 2))
  · rw [if_pos h1, if_pos h1]
  · rw [if_neg h1, if_neg h1, (h s.toNat (by omega)).1, (h s.toNat (by omega)).2]
theorem itC_1 {a b : Nat → Int} {s l i : Int} (h : itC a b s l i = 1) : (0 ≤ s ∧ s ≤ 3) ∧ 0 ≤ i ∧ i < b s.toNat := by
  unfold itC at h
  by_cases h1 : ¬ ((0 ≤ s ∧ s ≤ 3) ∧ (0 ≤ l ∧ l ≤ 2))
  · rw [if_pos h1] at h; omega
  · rw [if_neg h1] at h
    by_cases h2 : a s.toNat ≠ l
    · rw [if_pos h2] at h
      split at h <;> omega
    · rw [if_neg h2] at h
      by_cases h3 : ¬ (0 ≤ i ∧ i < b s.toNat)
      · rw [if_pos h3] at h; omega
      · omega
theorem itR_1 {a b : Nat → Int} {n : Nat} {s l i : Int} (h : itR a b n s l i = 1) : (0 ≤ s ∧ s ≤ 3) ∧ 0 ≤ i ∧ i + 4 * n + 4 ≤ b s.toNat := by
  unfold itR at h
  by_cases h1 : ¬ ((0 ≤ s ∧ s ≤ 3) ∧ (0 ≤ l ∧ l ≤ 2))
  · rw [if_pos h1] at h; omega
  · rw [if_neg h1] at h
    by_cases h2 : a s.toNat ≠ l
    · rw [if_pos h2] at h
      split at h <;> omega
    · rw [if_neg h2] at h
      by_cases h3 : ¬ (0 ≤ i ∧ i + 4 * n + 4 ≤ b s.toNat)
      · rw [if_pos h3] at h; omega
      · omega
/-- new sheets, the arch as it was -/
theorem INV.sheets {σ ρ u v : Nat → Nat → Int} {nn : Nat} (h : INV σ ρ nn) (hu : ∀ c, c ≤ 14 → u c = σ c) (hv : ∀ c, c ≤ 4 → v c = ρ c) (hs : SHR u v) : INV u v nn := by
  refine ⟨?_, ⟨?_, ?_⟩, ⟨?_, ?_, ?_⟩, ⟨?_, ?_, ?_, ?_⟩, hs⟩
  · rw [hu 2 (by decide), hu 3 (by decide), hu 4 (by decide), hu 5 (by decide)]; exact h.1
  · rw [hu 1 (by decide)]; exact h.2.1.1
  · rw [hv 0 (by decide)]; exact h.2.1.2
  · rw [hu 8 (by decide)]; exact h.2.2.1.1
  · rw [hu 9 (by decide)]; exact h.2.2.1.2.1
  · rw [hu 10 (by decide)]; exact h.2.2.1.2.2
  · rw [hv 1 (by decide), hu 2 (by decide)]; exact h.2.2.2.1.1
  · rw [hv 2 (by decide), hu 3 (by decide)]; exact h.2.2.2.1.2.1
  · rw [hv 3 (by decide), hu 4 (by decide)]; exact h.2.2.2.1.2.2.1
  · rw [hv 4 (by decide), hu 5 (by decide)]; exact h.2.2.2.1.2.2.2
theorem pr_item {σ ρ u v : Nat → Nat → Int} {nn : Nat} {sa la ia va z z' : Int} (h : INV σ ρ nn) (hva : I32 va) (hc : z = itC (lnC σ) (szC σ) sa la ia ∧ ((z ≠ 1 ∧ u = σ) ∨ (z = 1 ∧ u = up σ (15 + sa.toNat + 4) ia.toNat (if la = 0 then bytZ va else va)))) (hm : z' = itC (ρ 5) (ρ 6) sa la ia ∧ ((z' ≠ 1 ∧ v = ρ) ∨ (z' = 1 ∧ v = up ρ 7 (28 * sa + ia).toNat (if la = 0 then bytZ va else va)))) : z = z' ∧ ∃ n', INV u v n' := by
  obtain ⟨c1, hc⟩ := hc
  obtain ⟨m1, hm⟩ := hm
  have hz : z = z' := by rw [c1, m1, itC_cg h.2.2.2.2.2.1]
  refine ⟨hz, nn, ?_⟩
  rcases hc with ⟨c2, rfl⟩ | ⟨c2, rfl⟩ <;> rcases hm with ⟨m2, rfl⟩ | ⟨m2, rfl⟩
  · exact h
  · omega
  · omega
  · obtain ⟨⟨s1, s2⟩, i1, i2⟩ := itC_1 (by rw [← c1]; exact c2)
    have hS := h.2.2.2.2
    have i3 := (hS.1 sa.toNat (by omega)).2.2.2
    unfold szC at i2
    obtain ⟨s, rfl⟩ : ∃ s : Nat, sa = (s : Int) := ⟨sa.toNat, by omega⟩
    obtain ⟨i, rfl⟩ : ∃ i : Nat, ia = (i : Int) := ⟨ia.toNat, by omega⟩
    simp only [Int.toNat_natCast] at *
    rw [show (28 * (s : Int) + (i : Int)).toNat = 28 * s + i by omega]
    have hI : I32 (if la = 0 then bytZ va else va) := by
      split
      · unfold bytZ; exact iZ_rng _
      · exact hva
    generalize (if la = 0 then bytZ va else va) = w at *
    refine h.sheets (fun c hc => up_c (by omega)) (fun c hc => up_c (by omega)) ⟨fun s' hs' => ?_, fun s' hs' => ?_, fun s' hs' j hj => ?_⟩
    · rw [up_c (by omega)]; exact hS.1 s' hs'
    · unfold lnC szC
      rw [up_c (by omega), up_c (by omega), up_c (by omega)]; exact hS.2.1 s' hs'
    · rw [up_at, up_at]
      by_cases he : s' = s ∧ j = i
      · rw [if_pos (by omega), if_pos (by omega)]; exact ⟨rfl, hI⟩
      · rw [if_neg (by omega), if_neg (by omega)]; exact hS.2.2 s' hs' j hj
theorem pr_drop {σ ρ u v : Nat → Nat → Int} {nn : Nat} {sa z z' : Int} (h : INV σ ρ nn) (hc : (¬ (0 ≤ sa ∧ sa ≤ 3) ∧ z = -1 ∧ u = σ) ∨ ((0 ≤ sa ∧ sa ≤ 3) ∧ ((σ (15 + sa.toNat) 0 = 0 ∧ z = -11 ∧ u = σ) ∨ (σ (15 + sa.toNat) 0 ≠ 0 ∧ z = σ (15 + sa.toNat) 2 ∧ u = up σ (15 + sa.toNat) 0 0)))) (hm : (¬ (0 ≤ sa ∧ sa ≤ 3) ∧ z' = -1 ∧ v = ρ) ∨ ((0 ≤ sa ∧ sa ≤ 3) ∧ ((ρ 5 sa.toNat < 0 ∧ z' = -11 ∧ v = ρ) ∨ (0 ≤ ρ 5 sa.toNat ∧ z' = ρ 6 sa.toNat ∧ v = up ρ 5 sa.toNat (-1))))) : z = z' ∧ ∃ n', INV u v n' := by
  have hS := h.2.2.2.2
  rcases hc with ⟨c1, c2, rfl⟩ | ⟨c1, hc⟩
  · rcases hm with ⟨_, m2, rfl⟩ | ⟨m1, _⟩
    · exact ⟨by omega, nn, h⟩
    · exact absurd m1 c1
  · rcases hm with ⟨m1, _⟩ | ⟨_, hm⟩
    · exact absurd c1 m1
    · obtain ⟨s, rfl⟩ : ∃ s : Nat, sa = (s : Int) := ⟨sa.toNat, by omega⟩
      simp only [Int.toNat_natCast] at *
      have hs : s < 4 := by omega
      have e := hS.2.1 s hs
      have b := hS.1 s hs
      unfold lnC szC at e
      rcases hc with ⟨c2, c3, rfl⟩ | ⟨c2, c3, rfl⟩
      · rw [if_pos c2] at e
        rcases hm with ⟨m2, m3, rfl⟩ | ⟨m2, _, _⟩
        · exact ⟨by omega, nn, h⟩
        · omega
      · rw [if_neg c2] at e
        rcases hm with ⟨m2, _, _⟩ | ⟨m2, m3, rfl⟩
        · omega
        · refine ⟨by omega, nn, h.sheets (fun c hc => up_c (by omega)) (fun c hc => up_c (by omega)) ⟨fun s' hs' => ?_, fun s' hs' => ?_, fun s' hs' j hj => ?_⟩⟩
          · have b' := hS.1 s' hs'
            rw [up_at, up_at, up_at, if_neg (show ¬ (15 + s' = 15 + s ∧ 1 = 0) by omega), if_neg (show ¬ (15 + s' = 15 + s ∧ 2 = 0) by omega)]
            refine ⟨?_, b'.2⟩
            split
            · exact Or.inl rfl
            · exact b'.1
          · have e' := hS.2.1 s' hs'
            unfold lnC szC at *
            rw [up_at, up_at, up_at, up_at, up_at, if_neg (show ¬ (15 + s' = 15 + s ∧ 1 = 0) by omega), if_neg (show ¬ (15 + s' = 15 + s ∧ 2 = 0) by omega), if_neg (show ¬ (6 = 5 ∧ s' = s) by omega)]
            refine ⟨?_, e'.2⟩
            by_cases he : s' = s
            · subst he
              rw [if_pos ⟨rfl, rfl⟩, if_pos (by rw [if_pos ⟨rfl, rfl⟩])]
            · rw [if_neg (by omega), if_neg (show ¬ (15 + s' = 15 + s ∧ 0 = 0) by omega)]
              exact e'.1
          · rw [up_c (by decide), up_c (by omega)]; exact hS.2.2 s' hs' j hj
