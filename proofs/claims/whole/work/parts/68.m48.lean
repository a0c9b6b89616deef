/-! four rows that bar, the other way; the class's bars and the model's -/
theorem sm4_c {f : Nat → Nat → Int} {p q r s c : Nat} (hc : c = 0 ∨ c = 1 ∨ c = 2) : sm4 f p q r s c (det3 f q r s 0 1 2) (-(det3 f p r s 0 1 2)) (det3 f p q s 0 1 2) (-(det3 f p q r 0 1 2)) = 0 := by
  rcases hc with rfl | rfl | rfl <;> (unfold sm4 det3; grind)
theorem no3_pos {x l u m : Nat → Int} {n i j k h o : Nat} (hP : PA x l u m n) (ij : i < j) (jk : j < k) (kh : k < h) (hh : h ≤ n) (ho : o < 2) (hN : ∀ i j k o, i < j → j < k → k ≤ n → o < 2 → ¬ T3 x l u m i j k o) (hC : C4 x l u m i j k h o) : 0 < bnd x m j k h ∧ 0 < bnd x m i k h ∧ 0 < bnd x m i j h ∧ 0 < bnd x m i j k := by
  have x1 := hP.1.2 i j ij (by omega)
  have x2 := hP.1.2 j k jk (by omega)
  have x3 := hP.1.2 k h kh hh
  have b1 := hP.2.2.2.1 j k h jk kh hh
  have b2 := hP.2.2.2.1 i k h (by omega) kh hh
  have b3 := hP.2.2.2.1 i j h ij (by omega) hh
  have b4 := hP.2.2.2.1 i j k ij jk (by omega)
  rcases hC with ⟨rfl, hC⟩ | ⟨h0, hC⟩
  · exact all_pos x1 x2 x3 b1 b2 b3 b4 hC (fun e he => hN i j k 0 ij jk (by omega) (by decide) ⟨e, Or.inl ⟨rfl, he⟩⟩) (fun e he => hN j k h 1 jk kh hh (by decide) ⟨e, Or.inr ⟨by decide, he⟩⟩)
  · have hC2 : 0 < crZ x m (fun i => - u i) (fun i => - l i) i j k h := by
      have : crZ x m (fun i => - u i) (fun i => - l i) i j k h = - crZ x m u l i j k h := by unfold crZ; grind
      omega
    refine all_pos x1 x2 x3 b1 b2 b3 b4 hC2 (fun e he => hN i j k 1 ij jk (by omega) (by decide) ⟨e, Or.inr ⟨by decide, ?_⟩⟩) (fun e he => hN j k h 0 jk kh hh (by decide) ⟨e, Or.inl ⟨rfl, ?_⟩⟩)
    · have : rs x (fun i => - l i) (fun i => - u i) i j k = - rs x l u i j k := by unfold rs; grind
      omega
    · have : rs x (fun i => - u i) (fun i => - l i) j k h = - rs x u l j k h := by unfold rs; grind
      omega
theorem four_of {x l u m : Nat → Int} {n i j k h o : Nat} (hP : PA x l u m n) (ij : i < j) (jk : j < k) (kh : k < h) (hh : h ≤ n) (ho : o < 2) (hN : ∀ i j k o, i < j → j < k → k ≤ n → o < 2 → ¬ T3 x l u m i j k o) (hC : C4 x l u m i j k h o) : Four (RF x l u m n) (2 * i + o) (2 * j + 1 - o) (2 * k + o) (2 * h + 1 - o) := by
  have hL := hP.2.2.2.2
  have hLL := Int.mul_pos hL hL
  obtain ⟨p1, p2, p3, p4⟩ := no3_pos hP ij jk kh hh ho hN hC
  have q1 := Int.mul_pos hL p1
  have q2 := Int.mul_pos hL p2
  have q3 := Int.mul_pos hL p3
  have q4 := Int.mul_pos hL p4
  have hi : i ≤ n := by omega
  have hj : j ≤ n := by omega
  have hk : k ≤ n := by omega
  have ho' : 1 - o < 2 := by omega
  rw [show 2 * j + 1 - o = 2 * j + (1 - o) by omega, show 2 * h + 1 - o = 2 * h + (1 - o) by omega]
  have d1 := (det_VVV (x := x) (l := l) (u := u) (m := m) hj hk hh ho' ho ho').trans (sg_4 ho).1
  have d2 : -(det3 (RF x l u m n) (2 * i + o) (2 * k + o) (2 * h + (1 - o)) 0 1 2) = (2 * (o : Int) - 1) * (x n * bnd x m i k h) := by rw [det_VVV hi hk hh ho ho ho']; exact (sg_4 ho).2.1
  have d3 := (det_VVV (x := x) (l := l) (u := u) (m := m) hi hj hh ho ho' ho').trans (sg_4 ho).2.2.1
  have d4 : -(det3 (RF x l u m n) (2 * i + o) (2 * j + (1 - o)) (2 * k + o) 0 1 2) = (2 * (o : Int) - 1) * (x n * bnd x m i j k) := by rw [det_VVV hi hj hk ho ho' ho]; exact (sg_4 ho).2.2.2
  have sc := sm4_cr (l := l) (u := u) hi hj hk hh ho d1 d2 d3 d4
  refine ⟨?_, sm4_c (Or.inl rfl), sm4_c (Or.inr (Or.inl rfl)), sm4_c (Or.inr (Or.inr rfl))⟩
  rcases hC with ⟨h0, hC⟩ | ⟨h0, hC⟩
  · rw [sc.1 h0, d1, d2, d3, d4]
    have := Int.mul_pos hLL hC
    subst h0
    refine Or.inr ⟨by omega, by omega, by omega, by omega, by omega⟩
  · rw [sc.2 h0, d1, d2, d3, d4]
    have := Int.mul_pos hLL (show 0 < -(crZ x m u l i j k h) by omega)
    rw [Int.mul_neg] at this
    have o1 : o = 1 := by omega
    subst o1
    refine Or.inl ⟨by omega, by omega, by omega, by omega, by omega⟩
theorem four_push {x l u m : Nat → Int} {n i j k : Nat} (hP : PA x l u m n) (ij : i < j) (jk : j < k) (hk : k ≤ n) (hN : ∀ i j k o, i < j → j < k → k ≤ n → o < 2 → ¬ T3 x l u m i j k o) (hB : rs x u l i j k < 0) : Four (RF x l u m n) (2 * i + 0) (2 * j + 1) (2 * k + 0) (2 * n + 2) := by
  have hL := hP.2.2.2.2
  have hLL := Int.mul_pos hL hL
  have b4 := hP.2.2.2.1 i j k ij jk hk
  have p4 : 0 < bnd x m i j k := by
    have : bnd x m i j k ≠ 0 := fun e => hN i j k 0 ij jk hk (by decide) ⟨e, Or.inl ⟨rfl, hB⟩⟩
    omega
  have xij := hP.1.2 i j ij (by omega)
  have xjk := hP.1.2 j k jk hk
  have q4 := Int.mul_pos hL p4
  have q1 := Int.mul_pos hL (show 0 < x k - x j by omega)
  have q2 := Int.mul_pos hL (show 0 < x k - x i by omega)
  have q3 := Int.mul_pos hL (show 0 < x j - x i by omega)
  have hi : i ≤ n := by omega
  have hj : j ≤ n := by omega
  have d1 : det3 (RF x l u m n) (2 * j + 1) (2 * k + 0) (2 * n + 2) 0 1 2 = -(x n * (x k - x j)) := by rw [det_VVP hj hk (by decide) (by decide)]; simp
  have d2 : det3 (RF x l u m n) (2 * i + 0) (2 * k + 0) (2 * n + 2) 0 1 2 = x n * (x k - x i) := by rw [det_VVP hi hk (by decide) (by decide)]; simp
  have d3 : det3 (RF x l u m n) (2 * i + 0) (2 * j + 1) (2 * n + 2) 0 1 2 = -(x n * (x j - x i)) := by rw [det_VVP hi hj (by decide) (by decide)]; simp
  have d4 : det3 (RF x l u m n) (2 * i + 0) (2 * j + 1) (2 * k + 0) 0 1 2 = x n * bnd x m i j k := by rw [det_VVV hi hj hk (by decide) (by decide) (by decide)]; simp
  have s4 : sm4 (RF x l u m n) (2 * i + 0) (2 * j + 1) (2 * k + 0) (2 * n + 2) 4 (-(x n * (x k - x j))) (-(x n * (x k - x i))) (-(x n * (x j - x i))) (-(x n * bnd x m i j k)) = x n * x n * rs x u l i j k := by
    have r1 := RF_row (x := x) (l := l) (u := u) (m := m) hi (show 0 < 2 by decide)
    have r2 := RF_row (x := x) (l := l) (u := u) (m := m) hj (show 1 < 2 by decide)
    have r3 := RF_row (x := x) (l := l) (u := u) (m := m) hk (show 0 < 2 by decide)
    have r4 := RF_psh (x := x) (l := l) (u := u) (m := m) (n := n)
    unfold sm4
    rw [r1.2.2.2, r2.2.2.2, r3.2.2.2, r4.2.2.2]
    simp only [if_pos, if_neg (show ¬ (1 = 0) by decide)]
    unfold rs
    grind
  refine ⟨?_, sm4_c (Or.inl rfl), sm4_c (Or.inr (Or.inl rfl)), sm4_c (Or.inr (Or.inr rfl))⟩
  rw [d1, d2, d3, d4, s4]
  have := Int.mul_pos hLL (show 0 < -(rs x u l i j k) by omega)
  rw [Int.mul_neg] at this
  exact Or.inr ⟨by omega, by omega, by omega, by omega, by omega⟩
theorem b3_iff {σ u1 : Nat → Nat → Int} {n i j k o : Nat} (hG : GA σ 5 n u1) (ij : i < j) (jk : j < k) (hk : k ≤ n) : B3 (up u1 12 1 0) o i j k ↔ T3 (σ 2) (σ 3) (σ 4) (mo (σ 2) (σ 5) n) i j k o := by
  unfold B3 Bey T3 bnd
  rw [up_c (by decide), up_c (by decide), up_c (by decide), up_c (by decide), hG.1.1 2 (by decide) (by decide) (by decide) (by decide) (by decide), hG.1.1 3 (by decide) (by decide) (by decide) (by decide) (by decide), hG.1.1 4 (by decide) (by decide) (by decide) (by decide) (by decide), rs_cong (a' := mo (σ 2) (σ 5) n) (b' := mo (σ 2) (σ 5) n) (hG.2.1 j (by omega)) (hG.2.1 i (by omega)) (hG.2.1 k hk)]
theorem crs_iff {σ u1 : Nat → Nat → Int} {n i j k h o : Nat} (hG : GA σ 5 n u1) (ij : i < j) (jk : j < k) (kh : k < h) (hh : h ≤ n) : Crs (up u1 12 1 0) o i j k h ↔ C4 (σ 2) (σ 3) (σ 4) (mo (σ 2) (σ 5) n) i j k h o := by
  unfold Crs crS C4 crZ bnd
  rw [up_c (by decide), up_c (by decide), up_c (by decide), up_c (by decide), hG.1.1 2 (by decide) (by decide) (by decide) (by decide) (by decide), hG.1.1 3 (by decide) (by decide) (by decide) (by decide) (by decide), hG.1.1 4 (by decide) (by decide) (by decide) (by decide) (by decide), rs_cong (a' := mo (σ 2) (σ 5) n) (b' := mo (σ 2) (σ 5) n) (i := j) (j := k) (r := h) (hG.2.1 k (by omega)) (hG.2.1 j (by omega)) (hG.2.1 h hh), rs_cong (a' := mo (σ 2) (σ 5) n) (b' := mo (σ 2) (σ 5) n) (i := i) (j := k) (r := h) (hG.2.1 k (by omega)) (hG.2.1 i (by omega)) (hG.2.1 h hh), rs_cong (a' := mo (σ 2) (σ 5) n) (b' := mo (σ 2) (σ 5) n) (i := i) (j := j) (r := h) (hG.2.1 j (by omega)) (hG.2.1 i (by omega)) (hG.2.1 h hh), rs_cong (a' := mo (σ 2) (σ 5) n) (b' := mo (σ 2) (σ 5) n) (i := i) (j := j) (r := k) (hG.2.1 j (by omega)) (hG.2.1 i (by omega)) (hG.2.1 k (by omega))]
theorem bey_iff {σ u1 : Nat → Nat → Int} {n i j k : Nat} (hG : GA σ 5 n u1) : Bey (up u1 12 1 0) 0 i j k ↔ rs (σ 2) (σ 4) (σ 3) i j k < 0 := by
  unfold Bey
  rw [up_c (by decide), up_c (by decide), up_c (by decide), hG.1.1 2 (by decide) (by decide) (by decide) (by decide) (by decide), hG.1.1 3 (by decide) (by decide) (by decide) (by decide) (by decide), hG.1.1 4 (by decide) (by decide) (by decide) (by decide) (by decide)]
  simp
theorem kp_at {σ : Nat → Nat → Int} {o p q r : Nat} {a b : Int} : (up (kpS σ o p q r) 12 1 a) 12 1 = a ∧ (up (kpS σ o p q r) 12 1 a) 13 0 = 2 * (p : Int) + (o : Int) ∧ (up (kpS σ o p q r) 12 1 a) 13 1 = 2 * (q : Int) + 1 - (o : Int) ∧ (up (kpS σ o p q r) 12 1 a) 13 2 = 2 * (r : Int) + (o : Int) ∧ (up (up (kpS σ o p q r) 13 3 b) 12 1 a) 12 1 = a ∧ (up (up (kpS σ o p q r) 13 3 b) 12 1 a) 13 0 = 2 * (p : Int) + (o : Int) ∧ (up (up (kpS σ o p q r) 13 3 b) 12 1 a) 13 1 = 2 * (q : Int) + 1 - (o : Int) ∧ (up (up (kpS σ o p q r) 13 3 b) 12 1 a) 13 2 = 2 * (r : Int) + (o : Int) ∧ (up (up (kpS σ o p q r) 13 3 b) 12 1 a) 13 3 = b := by
  unfold kpS
  refine ⟨up_s _ _ _ _, ?_, ?_, ?_, up_s _ _ _ _, ?_, ?_, ?_, ?_⟩ <;> simp [up_at]
theorem lex3_eq {n f q r i j k o : Nat} (v1 : f ≤ 2 * n + 1) (v2 : f / 2 < q) (v3 : q < r) (v4 : r ≤ n) (y1 : i < j) (y2 : j < k) (y3 : k ≤ n) (y4 : o < 2) (nb : ¬ SeenFF n f q r (2 * i + o) j k) (na : ¬ SeenF (2 * n + 3) (2 * i + o) (2 * j + 1 - o) (2 * k + o) f (2 * q + 1 - f % 2) (2 * r + f % 2)) : f = 2 * i + o ∧ q = j ∧ r = k := by
  unfold SeenFF at nb
  unfold SeenF at na
  have h1 : ¬ (2 * i + o < f) := by omega
  have h2 : ¬ (f < 2 * i + o) := by omega
  have h3 : f = 2 * i + o := by omega
  subst h3
  have h4 : ¬ j < q := by omega
  have h5 : ¬ q < j := by omega
  have h6 : q = j := by omega
  subst h6
  omega
theorem lex4_eq {n f q r i j k o S s' : Nat} (v1 : f ≤ 2 * n + 1) (v2 : f / 2 < q) (v3 : q < r) (v4 : r ≤ n) (y1 : i < j) (y2 : j < k) (y3 : k ≤ n) (y4 : o < 2) (g1 : 2 * r + f % 2 < S) (g2 : S < 2 * n + 3) (nb : ¬ SeenFF n f q r (2 * i + o) j k) (na : ¬ Seen4 (2 * n + 3) (2 * i + o) (2 * j + 1 - o) (2 * k + o) s' f (2 * q + 1 - f % 2) (2 * r + f % 2) S) : f = 2 * i + o ∧ q = j ∧ r = k ∧ ¬ S < s' := by
  unfold SeenFF at nb
  unfold Seen4 at na
  have h1 : ¬ (2 * i + o < f) := by omega
  have h2 : ¬ (f < 2 * i + o) := by omega
  have h3 : f = 2 * i + o := by omega
  subst h3
  have h4 : ¬ j < q := by omega
  have h5 : ¬ q < j := by omega
  have h6 : q = j := by omega
  subst h6
  have h7 : ¬ k < r := by omega
  have h8 : ¬ r < k := by omega
  have h9 : r = k := by omega
  subst h9
  refine ⟨rfl, rfl, rfl, by omega⟩
theorem ix_n {z w : Int} {P n : Nat} (e : w = (P : Int)) (hz : z = (P : Int)) (hP : P < 2 * n + 2) : (w = 2 * (n : Int) + 2 ∧ z = 14) ∨ (w ≠ 2 * (n : Int) + 2 ∧ z = w) := by
  right; omega
theorem bars_fin3 {σ0 u2 ub : Nat → Nat → Int} {n i j k o : Nat} (y1 : i < j) (y2 : j < k) (y3 : k ≤ n) (y4 : o < 2) (hu : u2 = up (kpS σ0 o i j k) 12 1 3) (e0 : ub 11 0 = ((2 * i + o : Nat) : Int)) (e1 : ub 11 1 = ((2 * j + 1 - o : Nat) : Int)) (e2 : ub 11 2 = ((2 * k + o : Nat) : Int)) : u2 12 1 = 3 ∧ ∀ j : Nat, (j : Int) < 3 → (ub 11 j = 2 * (n : Int) + 2 ∧ u2 13 j = 14) ∨ (ub 11 j ≠ 2 * (n : Int) + 2 ∧ u2 13 j = ub 11 j) := by
  subst hu
  obtain ⟨k1, k2, k3, k4, _⟩ := kp_at (σ := σ0) (o := o) (p := i) (q := j) (r := k) (a := 3) (b := 0)
  refine ⟨k1, fun j9 hj9 => ?_⟩
  rcases (show j9 = 0 ∨ j9 = 1 ∨ j9 = 2 by omega) with rfl | rfl | rfl
  · exact ix_n e0 (by rw [k2]; omega) (by omega)
  · exact ix_n e1 (by rw [k3]; omega) (by omega)
  · exact ix_n e2 (by rw [k4]; omega) (by omega)
theorem bars_fin4 {σ0 u2 ub : Nat → Nat → Int} {n i j k o S : Nat} {b : Int} (y1 : i < j) (y2 : j < k) (y3 : k ≤ n) (y4 : o < 2) (hu : u2 = up (up (kpS σ0 o i j k) 13 3 b) 12 1 4) (hb : (S = 2 * n + 2 ∧ b = 14) ∨ (S ≠ 2 * n + 2 ∧ b = (S : Int))) (e0 : ub 11 0 = ((2 * i + o : Nat) : Int)) (e1 : ub 11 1 = ((2 * j + 1 - o : Nat) : Int)) (e2 : ub 11 2 = ((2 * k + o : Nat) : Int)) (e3 : ub 11 3 = (S : Int)) : u2 12 1 = 4 ∧ ∀ j : Nat, (j : Int) < 4 → (ub 11 j = 2 * (n : Int) + 2 ∧ u2 13 j = 14) ∨ (ub 11 j ≠ 2 * (n : Int) + 2 ∧ u2 13 j = ub 11 j) := by
  subst hu
  obtain ⟨_, _, _, _, k1, k2, k3, k4, k5⟩ := kp_at (σ := σ0) (o := o) (p := i) (q := j) (r := k) (a := 4) (b := b)
  refine ⟨k1, fun j9 hj9 => ?_⟩
  rcases (show j9 = 0 ∨ j9 = 1 ∨ j9 = 2 ∨ j9 = 3 by omega) with rfl | rfl | rfl | rfl
  · exact ix_n e0 (by rw [k2]; omega) (by omega)
  · exact ix_n e1 (by rw [k3]; omega) (by omega)
  · exact ix_n e2 (by rw [k4]; omega) (by omega)
  · rw [k5, e3]
    rcases hb with ⟨h1, h2⟩ | ⟨h1, h2⟩
    · left; exact ⟨by omega, h2⟩
    · right; exact ⟨by omega, h2⟩
/-- what the class keeps is what the model keeps -/
theorem bars_eq {σ u1 u2 ub : Nat → Nat → Int} {n : Nat} {zb : Int} (hS : HS σ 5 n) (hG : GA σ 5 n u1) (h : BFn u1 n u2) (h' : FB (RF (σ 2) (σ 3) (σ 4) (mo (σ 2) (σ 5) n) n) (2 * n + 3) zb ub) : u2 12 1 = zb ∧ ∀ j : Nat, (j : Int) < zb → (ub 11 j = 2 * (n : Int) + 2 ∧ u2 13 j = 14) ∨ (ub 11 j ≠ 2 * (n : Int) + 2 ∧ u2 13 j = ub 11 j) := by
  have hP := hS.2.1.pa
  obtain ⟨σ0, rfl, h⟩ := h
  rcases h with ⟨f, q, r, ⟨v1, v2, v3, v4⟩, ⟨hB, hu⟩, hF⟩ | ⟨hN3, h⟩
  · -- three
    have hT := three_of hP v2 v3 v4 (show f % 2 < 2 by omega) ((b3_iff hG v2 v3 v4).mp hB)
    rw [show 2 * (f / 2) + f % 2 = f by omega] at hT
    rcases h' with ⟨hz, p', q', r', w1, w2, w3, hT', hN', e0, e1, e2⟩ | ⟨hN, _⟩
    · obtain ⟨i, j, k, o, ⟨y1, y2, y3, y4⟩, rfl, rfl, rfl, hT3⟩ := three_to hP w1 w2 w3 hT'
      have nb : ¬ SeenFF n f q r (2 * i + o) j k := by
        intro hs
        have := hF _ _ _ hs
        unfold No3 at this
        rw [show (2 * i + o) % 2 = o by omega, show (2 * i + o) / 2 = i by omega] at this
        exact this ((b3_iff hG y1 y2 y3).mpr hT3)
      have na : ¬ SeenF (2 * n + 3) (2 * i + o) (2 * j + 1 - o) (2 * k + o) f (2 * q + 1 - f % 2) (2 * r + f % 2) := fun hs => hN' _ _ _ hs hT
      obtain ⟨ef, rfl, rfl⟩ := lex3_eq v1 v2 v3 v4 y1 y2 y3 y4 nb na
      subst ef
      rw [show (2 * i + o) % 2 = o by omega, show (2 * i + o) / 2 = i by omega] at hu
      rw [hz]
      exact bars_fin3 y1 y2 y3 y4 hu e0 e1 e2
    · exact absurd hT (hN _ _ _ ⟨by omega, by omega, by omega⟩)
  · have hN : ∀ i j k o, i < j → j < k → k ≤ n → o < 2 → ¬ T3 (σ 2) (σ 3) (σ 4) (mo (σ 2) (σ 5) n) i j k o := by
      intro i j k o y1 y2 y3 y4 hT3
      have := hN3 (2 * i + o) j k (by unfold SeenFF; omega)
      unfold No3 at this
      rw [show (2 * i + o) % 2 = o by omega, show (2 * i + o) / 2 = i by omega] at this
      exact this ((b3_iff hG y1 y2 y3).mpr hT3)
    rcases h' with ⟨_, p', q', r', w1, w2, w3, hT', _⟩ | ⟨_, h'⟩
    · obtain ⟨i, j, k, o, ⟨y1, y2, y3, y4⟩, _, _, _, hT3⟩ := three_to hP w1 w2 w3 hT'
      exact absurd hT3 (hN i j k o y1 y2 y3 y4)
    · have no4 : ∀ f q r, (f ≤ 2 * n + 1 ∧ f / 2 < q ∧ q < r ∧ r ≤ n) → No4 (up u1 12 1 0) n (f % 2) (f / 2) q r → (∀ h, r < h → h ≤ n → ¬ C4 (σ 2) (σ 3) (σ 4) (mo (σ 2) (σ 5) n) (f / 2) q r h (f % 2)) ∧ ¬ (f % 2 = 0 ∧ rs (σ 2) (σ 4) (σ 3) (f / 2) q r < 0) := by
        intro f q r ⟨v1, v2, v3, v4⟩ ⟨a1, a2⟩
        refine ⟨fun h h1 h2 hc => a1 h h1 h2 ((crs_iff hG v2 v3 h1 h2).mpr hc), fun hh => a2 ⟨hh.1, ?_⟩⟩
        rw [hh.1]
        exact (bey_iff hG).mpr hh.2
      rcases h with ⟨f, q, r, ⟨v1, v2, v3, v4⟩, hH, hF⟩ | ⟨hu, hF⟩
      · -- four
        -- the fourth row
        have key : ∃ S : Nat, (∃ b : Int, u2 = up (up (kpS (up u1 12 1 0) (f % 2) (f / 2) q r) 13 3 b) 12 1 4 ∧ ((S = 2 * n + 2 ∧ b = 14) ∨ (S ≠ 2 * n + 2 ∧ b = (S : Int)))) ∧ Four (RF (σ 2) (σ 3) (σ 4) (mo (σ 2) (σ 5) n) n) f (2 * q + 1 - f % 2) (2 * r + f % 2) S ∧ 2 * r + f % 2 < S ∧ S < 2 * n + 3 ∧ (∀ h, r < h → h ≤ n → 2 * h + 1 - f % 2 < S → ¬ C4 (σ 2) (σ 3) (σ 4) (mo (σ 2) (σ 5) n) (f / 2) q r h (f % 2)) := by
          rcases hH with ⟨s, s1, s2, s3, s4, s5⟩ | ⟨s1, s2, s3, s4⟩
          · refine ⟨2 * s + 1 - f % 2, ⟨_, s5, Or.inr ⟨by omega, by omega⟩⟩, ?_, by omega, by omega, fun h h1 h2 h3 hc => s4 h h1 (by omega) ((crs_iff hG v2 v3 h1 h2).mpr hc)⟩
            have := four_of hP v2 v3 s1 s2 (show f % 2 < 2 by omega) hN ((crs_iff hG v2 v3 s1 s2).mp s3)
            rw [show 2 * (f / 2) + f % 2 = f by omega] at this
            exact this
          · refine ⟨2 * n + 2, ⟨_, s4, Or.inl ⟨rfl, rfl⟩⟩, ?_, by omega, by omega, fun h h1 h2 _ hc => s1 h h1 h2 ((crs_iff hG v2 v3 h1 h2).mpr hc)⟩
            rw [s2] at s3
            have := four_push hP v2 v3 v4 hN ((bey_iff hG).mp s3)
            rw [show 2 * (f / 2) + 0 = f by omega] at this
            rw [s2]
            exact this
        obtain ⟨S, ⟨b, hu, hb⟩, hT, g1, g2, g3⟩ := key
        rcases h' with ⟨hz, p', q', r', s', w1, w2, w3, w4, hT', hN', e0, e1, e2, e3⟩ | ⟨_, hN'⟩
        · obtain ⟨i, j, k, o, ⟨y1, y2, y3, y4⟩, rfl, rfl, rfl, hC⟩ := four_to hP w1 w2 w3 w4 hT'
          have nb : ¬ SeenFF n f q r (2 * i + o) j k := by
            intro hs
            have := no4 _ _ _ hs.1 (hF _ _ _ hs)
            rw [show (2 * i + o) % 2 = o by omega, show (2 * i + o) / 2 = i by omega] at this
            rcases hC with ⟨h, h1, h2, _, h4⟩ | ⟨h1, _, h3⟩
            · exact this.1 h h1 h2 h4
            · exact this.2 ⟨h1, h3⟩
          have na : ¬ Seen4 (2 * n + 3) (2 * i + o) (2 * j + 1 - o) (2 * k + o) s' f (2 * q + 1 - f % 2) (2 * r + f % 2) S := fun hs => hN' _ _ _ _ hs hT
          obtain ⟨ef, rfl, rfl, l1⟩ := lex4_eq v1 v2 v3 v4 y1 y2 y3 y4 g1 g2 nb na
          subst ef
          have z1 : (2 * i + o) % 2 = o := by clear hC hb hu nb na hT hT'; omega
          have z2 : (2 * i + o) / 2 = i := by clear hC hb hu nb na hT hT'; omega
          rw [z1, z2] at hu g3
          have es : S = s' := by
            have l2 : ¬ s' < S := by
              intro hl
              rcases hC with ⟨h, h1, h2, h3, h4⟩ | ⟨h1, h2, h3⟩
              · exact g3 h h1 h2 (by rw [← h3]; exact hl) h4
              · clear hb hu nb na hT hT'; omega
            exact Nat.le_antisymm (Nat.not_lt.mp l2) (Nat.not_lt.mp l1)
          subst es
          rw [hz]
          exact bars_fin4 y1 y2 y3 y4 hu hb e0 e1 e2 e3
        · exact absurd hT (hN' _ _ _ _ ⟨by omega, by omega, g1, g2⟩)
      · -- none
        rcases h' with ⟨hz, p', q', r', s', w1, w2, w3, w4, hT', _⟩ | ⟨hz, _⟩
        · exfalso
          obtain ⟨i, j, k, o, ⟨y1, y2, y3, y4⟩, rfl, rfl, rfl, hC⟩ := four_to hP w1 w2 w3 w4 hT'
          have hv : SeenFF n (2 * n + 2) 0 0 (2 * i + o) j k := by unfold SeenFF; omega
          have := no4 _ _ _ hv.1 (hF _ _ _ hv)
          rw [show (2 * i + o) % 2 = o by omega, show (2 * i + o) / 2 = i by omega] at this
          rcases hC with ⟨h, h1, h2, _, h4⟩ | ⟨h1, _, h3⟩
          · exact this.1 h h1 h2 h4
          · exact this.2 ⟨h1, h3⟩
        · subst hu
          refine ⟨by rw [up_s, hz], fun j9 hj9 => by omega⟩
theorem eq_bar {σ u1 : Nat → Nat → Int} {n : Nat} {ii z z' : Int} (hi : -1 ≤ ii ∧ ii ≤ 3) (hS : HS σ 5 n) (hG : GA σ 5 n u1) (h : BaC (HoldP (σ 2) (σ 3) (σ 4) (mo (σ 2) (σ 5) n) n 1 1) u1 n ii z)
    (h' : ∃ τ, LI (RF (σ 2) (σ 3) (σ 4) (mo (σ 2) (σ 5) n) n) (2 * n + 3) (AllT (2 * n + 3)) τ ∧ ((τ 0 12 = 1 ∧ z' = -2) ∨ (τ 0 12 = 0 ∧ ∃ zb ub, FB (RF (σ 2) (σ 3) (σ 4) (mo (σ 2) (σ 5) n) n) (2 * n + 3) zb ub ∧ ((zb ≤ ii ∧ z' = -1) ∨ (ii < zb ∧ ((ii < 0 ∧ z' = zb) ∨ (0 ≤ ii ∧ ((ub 11 ii.toNat = 2 * (n : Int) + 2 ∧ z' = 14) ∨ (ub 11 ii.toNat ≠ 2 * (n : Int) + 2 ∧ z' = ub 11 ii.toNat))))))))) : z = z' := by
  obtain ⟨τ, hL, h'⟩ := h'
  unfold BaC at h
  rw [hp_11] at h
  rcases li_stands hS.2.1.pa hL with ⟨s1, s2⟩ | ⟨s1, s2⟩
  · rcases h with ⟨_, h⟩ | ⟨h, _⟩
    · rcases h' with ⟨_, h'⟩ | ⟨h', _⟩
      · rw [h, h']
      · omega
    · exact absurd s2 h
  · rcases h with ⟨h, _⟩ | ⟨_, u2, hB, h⟩
    · exact absurd h s2
    · rcases h' with ⟨h', _⟩ | ⟨_, zb, ub, hF, h'⟩
      · omega
      · obtain ⟨k1, k2⟩ := bars_eq hS hG hB hF
        rw [k1] at h
        rcases h with ⟨h, hz⟩ | ⟨h0, ⟨h, hz⟩ | ⟨h, hz⟩⟩
        · rcases h' with ⟨g, hz'⟩ | ⟨g, ⟨g2, hz'⟩ | ⟨g2, _⟩⟩
          · have := hF.z
            omega
          · rw [hz, hz']
          · omega
        · rcases h' with ⟨g, hz'⟩ | ⟨g, ⟨g2, hz'⟩ | ⟨g2, hz'⟩⟩
          · omega
          · omega
          · have := k2 ii.toNat (by omega)
            omega
        · rcases h' with ⟨g, hz'⟩ | ⟨g, _⟩
          · rw [hz, hz']
          · omega
