def gc4 (s0 s1 s2 b : Int) : Int := ((Nat.gcd (((Nat.gcd s0.natAbs s1.natAbs : Nat) : Int)).natAbs (((Nat.gcd s2.natAbs b.natAbs : Nat) : Int)).natAbs : Nat) : Int)
theorem gc4_ok {s0 s1 s2 b : Int} (hb : 0 < b) : 0 < gc4 s0 s1 s2 b ∧ gc4 s0 s1 s2 b ≤ b ∧ s0.tdiv (gc4 s0 s1 s2 b) * gc4 s0 s1 s2 b = s0 ∧ s1.tdiv (gc4 s0 s1 s2 b) * gc4 s0 s1 s2 b = s1 ∧ s2.tdiv (gc4 s0 s1 s2 b) * gc4 s0 s1 s2 b = s2 ∧ b.tdiv (gc4 s0 s1 s2 b) * gc4 s0 s1 s2 b = b := by
  have d0 : Nat.gcd (((Nat.gcd s0.natAbs s1.natAbs : Nat) : Int)).natAbs (((Nat.gcd s2.natAbs b.natAbs : Nat) : Int)).natAbs ∣ Nat.gcd s0.natAbs s1.natAbs := by
    have h := Nat.gcd_dvd_left (((Nat.gcd s0.natAbs s1.natAbs : Nat) : Int)).natAbs (((Nat.gcd s2.natAbs b.natAbs : Nat) : Int)).natAbs
    rwa [Int.natAbs_natCast] at h
  have d1 : Nat.gcd (((Nat.gcd s0.natAbs s1.natAbs : Nat) : Int)).natAbs (((Nat.gcd s2.natAbs b.natAbs : Nat) : Int)).natAbs ∣ Nat.gcd s2.natAbs b.natAbs := by
    have h := Nat.gcd_dvd_right (((Nat.gcd s0.natAbs s1.natAbs : Nat) : Int)).natAbs (((Nat.gcd s2.natAbs b.natAbs : Nat) : Int)).natAbs
    rwa [Int.natAbs_natCast (Nat.gcd s2.natAbs b.natAbs)] at h
  unfold gc4
  generalize hG : Nat.gcd (((Nat.gcd s0.natAbs s1.natAbs : Nat) : Int)).natAbs (((Nat.gcd s2.natAbs b.natAbs : Nat) : Int)).natAbs = G at *
  have e0 : (G : Int) ∣ s0 := Int.ofNat_dvd_left.mpr (Nat.dvd_trans d0 (Nat.gcd_dvd_left _ _))
  have e1 : (G : Int) ∣ s1 := Int.ofNat_dvd_left.mpr (Nat.dvd_trans d0 (Nat.gcd_dvd_right _ _))
  have e2 : (G : Int) ∣ s2 := Int.ofNat_dvd_left.mpr (Nat.dvd_trans d1 (Nat.gcd_dvd_left _ _))
  have e3 : (G : Int) ∣ b := Int.ofNat_dvd_left.mpr (Nat.dvd_trans d1 (Nat.gcd_dvd_right _ _))
  have hp : 0 < G := by
    rcases Nat.eq_zero_or_pos G with h | h
    · subst h
      have : b = 0 := Int.zero_dvd.mp e3
      omega
    · exact h
  exact ⟨by omega, Int.le_of_dvd hb e3, Int.tdiv_mul_cancel e0, Int.tdiv_mul_cancel e1, Int.tdiv_mul_cancel e2, Int.tdiv_mul_cancel e3⟩
theorem Bd.quo {s q G A : Int} (h : Bd s A) (hG : 0 < G) (e : q * G = s) : Bd q A := by
  obtain ⟨h1, h2⟩ := h
  rw [← e] at h1 h2
  refine ⟨?_, ?_⟩
  · rcases (show 0 ≤ q ∨ q < 0 by omega) with h3 | h3
    · have : 0 ≤ q * G := Int.mul_nonneg h3 (by omega)
      omega
    · have : q * G ≤ q * 1 := Int.mul_le_mul_of_nonpos_left (by omega) (by omega)
      omega
  · rcases (show q ≤ 0 ∨ 0 < q by omega) with h3 | h3
    · have : q * G ≤ 0 := Int.mul_nonpos_of_nonpos_of_nonneg h3 (by omega)
      omega
    · have : q * 1 ≤ q * G := Int.mul_le_mul_of_nonneg_left (by omega) (by omega)
      omega
/-- what is kept of lines, within its bounds -/
def LB (τ : Nat → Nat → Int) : Prop := τ 0 12 = 0 ∨ (τ 0 12 = 1 ∧ (0 < τ 0 14 ∧ Bd (τ 0 14) 96000000 ∧ Bd (τ 10 0) 1920000000 ∧ Bd (τ 10 1) 1920000000 ∧ Bd (τ 10 2) 960000) ∧ 0 < τ 0 16 ∧ Bd (τ 0 16) 96000000 ∧ Bd (τ 0 15) 960000)
def LexB (a b k d a' b' k' d' : Int) : Prop := k' * d < k * d' ∨ (k * d' = k' * d ∧ (a * d' < a' * d ∨ (a * d' = a' * d ∧ b * d' < b' * d)))
def tkB (σ : Nat → Nat → Int) (a b k d : Int) : Nat → Nat → Int := up (up (up (up σ 10 0 a) 10 1 b) 10 2 k) 0 14 d
def TS (σ u : Nat → Nat → Int) : Prop := ∃ a b k d e : Int, 0 < e ∧ σ 9 0 = a * e ∧ σ 9 1 = b * e ∧ σ 9 2 = k * e ∧ σ 0 11 = d * e ∧ 0 < d ∧ (Bd d 96000000 ∧ Bd a 1920000000 ∧ Bd b 1920000000 ∧ Bd k 960000) ∧ ∃ τ, (((σ 0 12 = 0 ∨ LexB a b k d (σ 10 0) (σ 10 1) (σ 10 2) (σ 0 14)) ∧ τ = tkB σ a b k d) ∨ (¬ (σ 0 12 = 0 ∨ LexB a b k d (σ 10 0) (σ 10 1) (σ 10 2) (σ 0 14)) ∧ τ = σ)) ∧ (((σ 0 12 = 0 ∨ k * σ 0 16 < σ 0 15 * d) ∧ u = up (up (up τ 0 15 k) 0 16 d) 0 12 1) ∨ (¬ (σ 0 12 = 0 ∨ k * σ 0 16 < σ 0 15 * d) ∧ u = up τ 0 12 1))
theorem cmpZ_neg {u v : Int} : cmpZ u v < 0 ↔ u < v := by
  rcases Int.lt_trichotomy u v with h | h | h
  · rw [cmpZ_lt h]; omega
  · rw [cmpZ_eq h]; omega
  · rw [cmpZ_gt h]; omega
theorem cmpZ_pos {u v : Int} : 0 < cmpZ u v ↔ v < u := by
  rcases Int.lt_trichotomy u v with h | h | h
  · rw [cmpZ_lt h]; omega
  · rw [cmpZ_eq h]; omega
  · rw [cmpZ_gt h]; omega
theorem cmpZ_zero {u v : Int} : cmpZ u v = 0 ↔ u = v := by
  rcases Int.lt_trichotomy u v with h | h | h
  · rw [cmpZ_lt h]; omega
  · rw [cmpZ_eq h]; omega
  · rw [cmpZ_gt h]; omega
theorem cmpZ_I (u v : Int) : -1 ≤ cmpZ u v ∧ cmpZ u v ≤ 1 := by
  rcases Int.lt_trichotomy u v with h | h | h
  · rw [cmpZ_lt h]; omega
  · rw [cmpZ_eq h]; omega
  · rw [cmpZ_gt h]; omega
set_option maxHeartbeats 4000000 in
set_option maxRecDepth 20000 in
theorem ts_X7_192 {g : Gx} {K : Kx} {q : Nat → Nat} {σ : Nat → Nat → Int} {τ : Nat → Nat → Int} {m : Int} {a b k d e : Int} (he : 0 < e) (h_0 : σ 9 0 = a * e) (h_1 : σ 9 1 = b * e) (h_2 : σ 9 2 = k * e) (h_3 : σ 0 11 = d * e) (hd : 0 < d) (hB : Bd d 96000000 ∧ Bd a 1920000000 ∧ Bd b 1920000000 ∧ Bd k 960000) (hL : LB σ) (C : CX g K cX7_takeSpot RX7 12 2 69) (T : RT g K none (fun u => WM g q u) (pV (fun u => TS σ u))) (ht : ((σ 0 12 = 0 ∨ LexB a b k d (σ 10 0) (σ 10 1) (σ 10 2) (σ 0 14)) ∧ τ = tkB σ a b k d) ∨ (¬ (σ 0 12 = 0 ∨ LexB a b k d (σ 10 0) (σ 10 1) (σ 10 2) (σ 0 14)) ∧ τ = σ)) : GJ g K (WM g q τ) 192 [(0, .ref (q 0)), (1, .long (lZ e)), (3, .long (lZ a)), (5, .long (lZ b)), (7, .long (lZ k)), (9, .long (lZ d)), (11, .int (iZ m))] [] := by
  have e12 : τ 0 12 = σ 0 12 := by rcases ht with ⟨_, h⟩ | ⟨_, h⟩ <;> rw [h] <;> rfl
  have e15 : τ 0 15 = σ 0 15 := by rcases ht with ⟨_, h⟩ | ⟨_, h⟩ <;> rw [h] <;> rfl
  have e16 : τ 0 16 = σ 0 16 := by rcases ht with ⟨_, h⟩ | ⟨_, h⟩ <;> rw [h] <;> rfl
  rcases hL with h9 | ⟨h9, h8, h7⟩
  · refine g_aload_n 0 C rfl dX7_takeSpot_192 rfl ?_
    refine gf_X7_114 C dX7_takeSpot_193 ?_
    rw [show τ 0 12 = 0 from e12.trans h9]
    refine g_if_eq 217 C (by unfold I32; omega) dX7_takeSpot_196 (by decide) (fun h1 => ?_) (fun h1 => ?_)
    · refine g_aload_n 0 C rfl dX7_takeSpot_217 rfl ?_
      refine g_lload 4 C rfl dX7_takeSpot_218 ?_
      refine pf_X7_135 C dX7_takeSpot_220 ?_
      refine g_aload_n 0 C rfl dX7_takeSpot_223 rfl ?_
      refine g_lload 5 C rfl dX7_takeSpot_224 ?_
      refine pf_X7_138 C dX7_takeSpot_226 ?_
      refine g_aload_n 0 C rfl dX7_takeSpot_229 rfl ?_
      refine g_iconst C dX7_takeSpot_230 ?_
      refine pf_X7_114 (by omega) C dX7_takeSpot_231 ?_
      refine g_vret (u := (up (up (up τ 0 15 k) 0 16 d) 0 12 1)) C T dX7_takeSpot_234 ?_
      exact ⟨rfl, a, b, k, d, e, he, h_0, h_1, h_2, h_3, hd, hB, τ, ht, Or.inl ⟨Or.inl h9, rfl⟩⟩
    · exact absurd h1 (by first | decide | omega)
  · refine g_aload_n 0 C rfl dX7_takeSpot_192 rfl ?_
    refine gf_X7_114 C dX7_takeSpot_193 ?_
    rw [show τ 0 12 = 1 from e12.trans h9]
    refine g_if_eq 217 C (by unfold I32; omega) dX7_takeSpot_196 (by decide) (fun h1 => ?_) (fun h1 => ?_)
    · exact absurd h1 (by first | decide | omega)
    refine g_lload 4 C rfl dX7_takeSpot_199 ?_
    refine g_lload 5 C rfl dX7_takeSpot_201 ?_
    refine g_aload_n 0 C rfl dX7_takeSpot_203 rfl ?_
    refine gf_X7_135 C dX7_takeSpot_204 ?_
    rw [show τ 0 15 = σ 0 15 from e15]
    refine g_aload_n 0 C rfl dX7_takeSpot_207 rfl ?_
    refine gf_X7_138 C dX7_takeSpot_208 ?_
    rw [show τ 0 16 = σ 0 16 from e16]
    refine g_callSI C (c_X7_compare g (a := k) (x := d) (b := σ 0 15) (y := σ 0 16) hd (by omega) (by unfold Bd at *; omega) (by unfold Bd at *; omega) (by unfold Bd at *; omega) (by unfold Bd at *; omega)) gs_X7_131 yd_X7_compare ⟨by decide, by decide⟩ rfl (Nat.le_of_ble_eq_true rfl) dX7_takeSpot_211 ?_
    rintro _ rfl
    refine g_if_ge 229 C (by have h5 := cmpZ_I (k * σ 0 16) (σ 0 15 * d); unfold I32; omega) dX7_takeSpot_214 (by decide) (fun h2 => ?_) (fun h2 => ?_)
    · refine g_aload_n 0 C rfl dX7_takeSpot_229 rfl ?_
      refine g_iconst C dX7_takeSpot_230 ?_
      refine pf_X7_114 (by omega) C dX7_takeSpot_231 ?_
      refine g_vret (u := (up τ 0 12 1)) C T dX7_takeSpot_234 ?_
      exact ⟨rfl, a, b, k, d, e, he, h_0, h_1, h_2, h_3, hd, hB, τ, ht, Or.inr ⟨fun h5 => h5.elim (fun h4 => by omega) (fun h4 => by have := cmpZ_neg.mpr h4; omega), rfl⟩⟩
    · refine g_aload_n 0 C rfl dX7_takeSpot_217 rfl ?_
      refine g_lload 4 C rfl dX7_takeSpot_218 ?_
      refine pf_X7_135 C dX7_takeSpot_220 ?_
      refine g_aload_n 0 C rfl dX7_takeSpot_223 rfl ?_
      refine g_lload 5 C rfl dX7_takeSpot_224 ?_
      refine pf_X7_138 C dX7_takeSpot_226 ?_
      refine g_aload_n 0 C rfl dX7_takeSpot_229 rfl ?_
      refine g_iconst C dX7_takeSpot_230 ?_
      refine pf_X7_114 (by omega) C dX7_takeSpot_231 ?_
      refine g_vret (u := (up (up (up τ 0 15 k) 0 16 d) 0 12 1)) C T dX7_takeSpot_234 ?_
      exact ⟨rfl, a, b, k, d, e, he, h_0, h_1, h_2, h_3, hd, hB, τ, ht, Or.inl ⟨Or.inr (cmpZ_neg.mp (by omega)), rfl⟩⟩
set_option maxHeartbeats 4000000 in
set_option maxRecDepth 20000 in
theorem ts_X7_158 {g : Gx} {K : Kx} {q : Nat → Nat} {σ : Nat → Nat → Int} {m : Int} {a b k d e : Int} (he : 0 < e) (h_0 : σ 9 0 = a * e) (h_1 : σ 9 1 = b * e) (h_2 : σ 9 2 = k * e) (h_3 : σ 0 11 = d * e) (hd : 0 < d) (hB : Bd d 96000000 ∧ Bd a 1920000000 ∧ Bd b 1920000000 ∧ Bd k 960000) (hL : LB σ) (hm : -2 ≤ m ∧ m ≤ 2) (hm2 : 0 < m ↔ (σ 0 12 = 0 ∨ LexB a b k d (σ 10 0) (σ 10 1) (σ 10 2) (σ 0 14))) (C : CX g K cX7_takeSpot RX7 12 2 69) (T : RT g K none (fun u => WM g q u) (pV (fun u => TS σ u))) : GJ g K (WM g q σ) 158 [(0, .ref (q 0)), (1, .long (lZ e)), (3, .long (lZ a)), (5, .long (lZ b)), (7, .long (lZ k)), (9, .long (lZ d)), (11, .int (iZ m))] [] := by
  refine g_iload 6 C rfl dX7_takeSpot_158 ?_
  refine g_if_le 192 C (by unfold I32; omega) dX7_takeSpot_160 (by decide) (fun h1 => ?_) (fun h1 => ?_)
  · exact ts_X7_192 he h_0 h_1 h_2 h_3 hd hB hL C T (Or.inr ⟨fun h5 => by have := hm2.mpr h5; omega, rfl⟩)
  · refine g_aload_n 0 C rfl dX7_takeSpot_163 rfl ?_
    refine gf_X7_42 C dX7_takeSpot_164 ?_
    refine g_iconst C dX7_takeSpot_167 ?_
    refine g_lload_n 2 C rfl dX7_takeSpot_168 rfl ?_
    refine g_last C 10 0 (by decide) (fun _ => rfl) (by omega) (by omega) (by decide) dX7_takeSpot_169 ?_
    refine g_aload_n 0 C rfl dX7_takeSpot_170 rfl ?_
    refine gf_X7_42 C dX7_takeSpot_171 ?_
    refine g_iconst C dX7_takeSpot_174 ?_
    refine g_lload 3 C rfl dX7_takeSpot_175 ?_
    refine g_last C 10 1 (by decide) (fun _ => rfl) (by omega) (by omega) (by decide) dX7_takeSpot_177 ?_
    refine g_aload_n 0 C rfl dX7_takeSpot_178 rfl ?_
    refine gf_X7_42 C dX7_takeSpot_179 ?_
    refine g_iconst C dX7_takeSpot_182 ?_
    refine g_lload 4 C rfl dX7_takeSpot_183 ?_
    refine g_last C 10 2 (by decide) (fun _ => rfl) (by omega) (by omega) (by decide) dX7_takeSpot_185 ?_
    refine g_aload_n 0 C rfl dX7_takeSpot_186 rfl ?_
    refine g_lload 5 C rfl dX7_takeSpot_187 ?_
    refine pf_X7_128 C dX7_takeSpot_189 ?_
    exact ts_X7_192 he h_0 h_1 h_2 h_3 hd hB hL C T (Or.inl ⟨hm2.mp (by omega), rfl⟩)
set_option maxHeartbeats 4000000 in
set_option maxRecDepth 20000 in
theorem ts_X7_69 {g : Gx} {K : Kx} {q : Nat → Nat} {σ : Nat → Nat → Int} {a b k d e : Int} (he : 0 < e) (h_0 : σ 9 0 = a * e) (h_1 : σ 9 1 = b * e) (h_2 : σ 9 2 = k * e) (h_3 : σ 0 11 = d * e) (hd : 0 < d) (hB : Bd d 96000000 ∧ Bd a 1920000000 ∧ Bd b 1920000000 ∧ Bd k 960000) (hL : LB σ) (C : CX g K cX7_takeSpot RX7 12 2 69) (T : RT g K none (fun u => WM g q u) (pV (fun u => TS σ u))) : GJ g K (WM g q σ) 69 [(0, .ref (q 0)), (1, .long (lZ e)), (3, .long (lZ a)), (5, .long (lZ b)), (7, .long (lZ k)), (9, .long (lZ d))] [] := by
  rcases id hL with h9 | ⟨h9, h8, h7⟩
  · refine g_aload_n 0 C rfl dX7_takeSpot_69 rfl ?_
    refine gf_X7_114 C dX7_takeSpot_70 ?_
    rw [show σ 0 12 = 0 from h9]
    refine g_if_ne 80 C (by have f1 := cmpZ_I (k * σ 0 14) (σ 10 2 * d); have f2 := cmpZ_I (a * σ 0 14) (σ 10 0 * d); have f3 := cmpZ_I (b * σ 0 14) (σ 10 1 * d); unfold I32; omega) dX7_takeSpot_73 (by decide) (fun h1 => ?_) (fun h1 => ?_)
    · exact absurd h1 (by first | decide | omega)
    refine g_iconst C dX7_takeSpot_76 ?_
    refine g_goto 97 C dX7_takeSpot_77 (by decide) ?_
    refine g_istore (lv' := [(0, .ref (q 0)), (1, .long (lZ e)), (3, .long (lZ a)), (5, .long (lZ b)), (7, .long (lZ k)), (9, .long (lZ d)), (11, .int (iZ 1))]) [1, 2, 3, 4, 5, 6, 0] C dX7_takeSpot_97 (by decide) rfl ?_
    refine g_iload 6 C rfl dX7_takeSpot_99 ?_
    refine g_if_ne 124 C (by have f1 := cmpZ_I (k * σ 0 14) (σ 10 2 * d); have f2 := cmpZ_I (a * σ 0 14) (σ 10 0 * d); have f3 := cmpZ_I (b * σ 0 14) (σ 10 1 * d); unfold I32; omega) dX7_takeSpot_101 (by decide) (fun h2 => ?_) (fun h2 => ?_)
    · refine g_iload 6 C rfl dX7_takeSpot_124 ?_
      refine g_istore (lv' := [(0, .ref (q 0)), (1, .long (lZ e)), (3, .long (lZ a)), (5, .long (lZ b)), (7, .long (lZ k)), (9, .long (lZ d)), (11, .int (iZ 1))]) [1, 2, 3, 4, 5, 6, 0] C dX7_takeSpot_126 (by decide) rfl ?_
      refine g_iload 6 C rfl dX7_takeSpot_128 ?_
      refine g_if_ne 154 C (by have f1 := cmpZ_I (k * σ 0 14) (σ 10 2 * d); have f2 := cmpZ_I (a * σ 0 14) (σ 10 0 * d); have f3 := cmpZ_I (b * σ 0 14) (σ 10 1 * d); unfold I32; omega) dX7_takeSpot_130 (by decide) (fun h3 => ?_) (fun h3 => ?_)
      · refine g_iload 6 C rfl dX7_takeSpot_154 ?_
        refine g_istore (lv' := [(0, .ref (q 0)), (1, .long (lZ e)), (3, .long (lZ a)), (5, .long (lZ b)), (7, .long (lZ k)), (9, .long (lZ d)), (11, .int (iZ 1))]) [1, 2, 3, 4, 5, 6, 0] C dX7_takeSpot_156 (by decide) rfl ?_
        exact ts_X7_158 he h_0 h_1 h_2 h_3 hd hB hL (by omega) ⟨fun _ => Or.inl h9, fun _ => by omega⟩ C T
      · exact absurd h3 (by first | decide | omega)
    · exact absurd h2 (by first | decide | omega)
  · refine g_aload_n 0 C rfl dX7_takeSpot_69 rfl ?_
    refine gf_X7_114 C dX7_takeSpot_70 ?_
    rw [show σ 0 12 = 1 from h9]
    refine g_if_ne 80 C (by have f1 := cmpZ_I (k * σ 0 14) (σ 10 2 * d); have f2 := cmpZ_I (a * σ 0 14) (σ 10 0 * d); have f3 := cmpZ_I (b * σ 0 14) (σ 10 1 * d); unfold I32; omega) dX7_takeSpot_73 (by decide) (fun h1 => ?_) (fun h1 => ?_)
    · refine g_lload 4 C rfl dX7_takeSpot_80 ?_
      refine g_lload 5 C rfl dX7_takeSpot_82 ?_
      refine g_aload_n 0 C rfl dX7_takeSpot_84 rfl ?_
      refine gf_X7_42 C dX7_takeSpot_85 ?_
      refine g_iconst C dX7_takeSpot_88 ?_
      refine g_lald C 10 2 (by decide) (fun _ => rfl) (by omega) (by omega) (by decide) dX7_takeSpot_89 ?_
      refine g_aload_n 0 C rfl dX7_takeSpot_90 rfl ?_
      refine gf_X7_128 C dX7_takeSpot_91 ?_
      refine g_callSI C (c_X7_compare g (a := k) (x := d) (b := σ 10 2) (y := σ 0 14) hd (by omega) (by unfold Bd at *; omega) (by unfold Bd at *; omega) (by unfold Bd at *; omega) (by unfold Bd at *; omega)) gs_X7_131 yd_X7_compare ⟨by decide, by decide⟩ rfl (Nat.le_of_ble_eq_true rfl) dX7_takeSpot_94 ?_
      rintro _ rfl
      refine g_iname (fun w2 ew2 => ?_)
      refine g_istore (lv' := [(0, .ref (q 0)), (1, .long (lZ e)), (3, .long (lZ a)), (5, .long (lZ b)), (7, .long (lZ k)), (9, .long (lZ d)), (11, .int (iZ w2))]) [1, 2, 3, 4, 5, 6, 0] C dX7_takeSpot_97 (by decide) rfl ?_
      refine g_iload 6 C rfl dX7_takeSpot_99 ?_
      refine g_if_ne 124 C (by have f1 := cmpZ_I (k * σ 0 14) (σ 10 2 * d); have f2 := cmpZ_I (a * σ 0 14) (σ 10 0 * d); have f3 := cmpZ_I (b * σ 0 14) (σ 10 1 * d); unfold I32; omega) dX7_takeSpot_101 (by decide) (fun h3 => ?_) (fun h3 => ?_)
      · refine g_iload 6 C rfl dX7_takeSpot_124 ?_
        refine g_istore (lv' := [(0, .ref (q 0)), (1, .long (lZ e)), (3, .long (lZ a)), (5, .long (lZ b)), (7, .long (lZ k)), (9, .long (lZ d)), (11, .int (iZ w2))]) [1, 2, 3, 4, 5, 6, 0] C dX7_takeSpot_126 (by decide) rfl ?_
        refine g_iload 6 C rfl dX7_takeSpot_128 ?_
        refine g_if_ne 154 C (by have f1 := cmpZ_I (k * σ 0 14) (σ 10 2 * d); have f2 := cmpZ_I (a * σ 0 14) (σ 10 0 * d); have f3 := cmpZ_I (b * σ 0 14) (σ 10 1 * d); unfold I32; omega) dX7_takeSpot_130 (by decide) (fun h4 => ?_) (fun h4 => ?_)
        · refine g_iload 6 C rfl dX7_takeSpot_154 ?_
          refine g_istore (lv' := [(0, .ref (q 0)), (1, .long (lZ e)), (3, .long (lZ a)), (5, .long (lZ b)), (7, .long (lZ k)), (9, .long (lZ d)), (11, .int (iZ w2))]) [1, 2, 3, 4, 5, 6, 0] C dX7_takeSpot_156 (by decide) rfl ?_
          refine ts_X7_158 he h_0 h_1 h_2 h_3 hd hB hL ?_ ?_ C T
          · have f1 := cmpZ_I (k * σ 0 14) (σ 10 2 * d)
            have f2 := cmpZ_I (a * σ 0 14) (σ 10 0 * d)
            have f3 := cmpZ_I (b * σ 0 14) (σ 10 1 * d)
            have f4 := @cmpZ_pos (k * σ 0 14) (σ 10 2 * d)
            have f5 := @cmpZ_zero (k * σ 0 14) (σ 10 2 * d)
            have f6 := @cmpZ_neg (a * σ 0 14) (σ 10 0 * d)
            have f7 := @cmpZ_zero (a * σ 0 14) (σ 10 0 * d)
            have f8 := @cmpZ_neg (b * σ 0 14) (σ 10 1 * d)
            omega
          · have f1 := cmpZ_I (k * σ 0 14) (σ 10 2 * d)
            have f2 := cmpZ_I (a * σ 0 14) (σ 10 0 * d)
            have f3 := cmpZ_I (b * σ 0 14) (σ 10 1 * d)
            have f4 := @cmpZ_pos (k * σ 0 14) (σ 10 2 * d)
            have f5 := @cmpZ_zero (k * σ 0 14) (σ 10 2 * d)
            have f6 := @cmpZ_neg (a * σ 0 14) (σ 10 0 * d)
            have f7 := @cmpZ_zero (a * σ 0 14) (σ 10 0 * d)
            have f8 := @cmpZ_neg (b * σ 0 14) (σ 10 1 * d)
            unfold LexB
            omega
        · exact absurd h4 (by first | decide | omega)
      · refine g_lload_n 2 C rfl dX7_takeSpot_104 rfl ?_
        refine g_lload 5 C rfl dX7_takeSpot_105 ?_
        refine g_aload_n 0 C rfl dX7_takeSpot_107 rfl ?_
        refine gf_X7_42 C dX7_takeSpot_108 ?_
        refine g_iconst C dX7_takeSpot_111 ?_
        refine g_lald C 10 0 (by decide) (fun _ => rfl) (by omega) (by omega) (by decide) dX7_takeSpot_112 ?_
        refine g_aload_n 0 C rfl dX7_takeSpot_113 rfl ?_
        refine gf_X7_128 C dX7_takeSpot_114 ?_
        refine g_callSI C (c_X7_compare g (a := a) (x := d) (b := σ 10 0) (y := σ 0 14) hd (by omega) (by unfold Bd at *; omega) (by unfold Bd at *; omega) (by unfold Bd at *; omega) (by unfold Bd at *; omega)) gs_X7_131 yd_X7_compare ⟨by decide, by decide⟩ rfl (Nat.le_of_ble_eq_true rfl) dX7_takeSpot_117 ?_
        rintro _ rfl
        refine g_ineg C dX7_takeSpot_120 ?_
        refine g_goto 126 C dX7_takeSpot_121 (by decide) ?_
        refine g_iname (fun w5 ew5 => ?_)
        refine g_istore (lv' := [(0, .ref (q 0)), (1, .long (lZ e)), (3, .long (lZ a)), (5, .long (lZ b)), (7, .long (lZ k)), (9, .long (lZ d)), (11, .int (iZ w5))]) [1, 2, 3, 4, 5, 6, 0] C dX7_takeSpot_126 (by decide) rfl ?_
        refine g_iload 6 C rfl dX7_takeSpot_128 ?_
        refine g_if_ne 154 C (by have f1 := cmpZ_I (k * σ 0 14) (σ 10 2 * d); have f2 := cmpZ_I (a * σ 0 14) (σ 10 0 * d); have f3 := cmpZ_I (b * σ 0 14) (σ 10 1 * d); unfold I32; omega) dX7_takeSpot_130 (by decide) (fun h6 => ?_) (fun h6 => ?_)
        · refine g_iload 6 C rfl dX7_takeSpot_154 ?_
          refine g_istore (lv' := [(0, .ref (q 0)), (1, .long (lZ e)), (3, .long (lZ a)), (5, .long (lZ b)), (7, .long (lZ k)), (9, .long (lZ d)), (11, .int (iZ w5))]) [1, 2, 3, 4, 5, 6, 0] C dX7_takeSpot_156 (by decide) rfl ?_
          refine ts_X7_158 he h_0 h_1 h_2 h_3 hd hB hL ?_ ?_ C T
          · have f1 := cmpZ_I (k * σ 0 14) (σ 10 2 * d)
            have f2 := cmpZ_I (a * σ 0 14) (σ 10 0 * d)
            have f3 := cmpZ_I (b * σ 0 14) (σ 10 1 * d)
            have f4 := @cmpZ_pos (k * σ 0 14) (σ 10 2 * d)
            have f5 := @cmpZ_zero (k * σ 0 14) (σ 10 2 * d)
            have f6 := @cmpZ_neg (a * σ 0 14) (σ 10 0 * d)
            have f7 := @cmpZ_zero (a * σ 0 14) (σ 10 0 * d)
            have f8 := @cmpZ_neg (b * σ 0 14) (σ 10 1 * d)
            omega
          · have f1 := cmpZ_I (k * σ 0 14) (σ 10 2 * d)
            have f2 := cmpZ_I (a * σ 0 14) (σ 10 0 * d)
            have f3 := cmpZ_I (b * σ 0 14) (σ 10 1 * d)
            have f4 := @cmpZ_pos (k * σ 0 14) (σ 10 2 * d)
            have f5 := @cmpZ_zero (k * σ 0 14) (σ 10 2 * d)
            have f6 := @cmpZ_neg (a * σ 0 14) (σ 10 0 * d)
            have f7 := @cmpZ_zero (a * σ 0 14) (σ 10 0 * d)
            have f8 := @cmpZ_neg (b * σ 0 14) (σ 10 1 * d)
            unfold LexB
            omega
        · refine g_lload 3 C rfl dX7_takeSpot_133 ?_
          refine g_lload 5 C rfl dX7_takeSpot_135 ?_
          refine g_aload_n 0 C rfl dX7_takeSpot_137 rfl ?_
          refine gf_X7_42 C dX7_takeSpot_138 ?_
          refine g_iconst C dX7_takeSpot_141 ?_
          refine g_lald C 10 1 (by decide) (fun _ => rfl) (by omega) (by omega) (by decide) dX7_takeSpot_142 ?_
          refine g_aload_n 0 C rfl dX7_takeSpot_143 rfl ?_
          refine gf_X7_128 C dX7_takeSpot_144 ?_
          refine g_callSI C (c_X7_compare g (a := b) (x := d) (b := σ 10 1) (y := σ 0 14) hd (by omega) (by unfold Bd at *; omega) (by unfold Bd at *; omega) (by unfold Bd at *; omega) (by unfold Bd at *; omega)) gs_X7_131 yd_X7_compare ⟨by decide, by decide⟩ rfl (Nat.le_of_ble_eq_true rfl) dX7_takeSpot_147 ?_
          rintro _ rfl
          refine g_ineg C dX7_takeSpot_150 ?_
          refine g_goto 156 C dX7_takeSpot_151 (by decide) ?_
          refine g_iname (fun w7 ew7 => ?_)
          refine g_istore (lv' := [(0, .ref (q 0)), (1, .long (lZ e)), (3, .long (lZ a)), (5, .long (lZ b)), (7, .long (lZ k)), (9, .long (lZ d)), (11, .int (iZ w7))]) [1, 2, 3, 4, 5, 6, 0] C dX7_takeSpot_156 (by decide) rfl ?_
          refine ts_X7_158 he h_0 h_1 h_2 h_3 hd hB hL ?_ ?_ C T
          · have f1 := cmpZ_I (k * σ 0 14) (σ 10 2 * d)
            have f2 := cmpZ_I (a * σ 0 14) (σ 10 0 * d)
            have f3 := cmpZ_I (b * σ 0 14) (σ 10 1 * d)
            have f4 := @cmpZ_pos (k * σ 0 14) (σ 10 2 * d)
            have f5 := @cmpZ_zero (k * σ 0 14) (σ 10 2 * d)
            have f6 := @cmpZ_neg (a * σ 0 14) (σ 10 0 * d)
            have f7 := @cmpZ_zero (a * σ 0 14) (σ 10 0 * d)
            have f8 := @cmpZ_neg (b * σ 0 14) (σ 10 1 * d)
            omega
          · have f1 := cmpZ_I (k * σ 0 14) (σ 10 2 * d)
            have f2 := cmpZ_I (a * σ 0 14) (σ 10 0 * d)
            have f3 := cmpZ_I (b * σ 0 14) (σ 10 1 * d)
            have f4 := @cmpZ_pos (k * σ 0 14) (σ 10 2 * d)
            have f5 := @cmpZ_zero (k * σ 0 14) (σ 10 2 * d)
            have f6 := @cmpZ_neg (a * σ 0 14) (σ 10 0 * d)
            have f7 := @cmpZ_zero (a * σ 0 14) (σ 10 0 * d)
            have f8 := @cmpZ_neg (b * σ 0 14) (σ 10 1 * d)
            unfold LexB
            omega
    · exact absurd h1 (by first | decide | omega)
theorem gcd_bd {a b A B : Int} (ha : Bd a A) (hb : Bd b B) (h : A + B < 4611686018427387904) : 0 ≤ ((Nat.gcd a.natAbs b.natAbs : Nat) : Int) ∧ ((Nat.gcd a.natAbs b.natAbs : Nat) : Int) < 4611686018427387904 := by
  have h1 : Nat.gcd a.natAbs b.natAbs ≤ a.natAbs + b.natAbs := by
    rcases Nat.eq_zero_or_pos a.natAbs with h0 | h0
    · rw [h0, Nat.gcd_zero_left]; omega
    · exact Nat.le_trans (Nat.gcd_le_left _ h0) (by omega)
  obtain ⟨h2, h3⟩ := ha
  obtain ⟨h4, h5⟩ := hb
  omega
theorem gcd_bd2 {a b A B : Int} (ha : Bd a A) (hb : Bd b B) (_ : 0 < b) (h : A + B < 4611686018427387904) : 0 ≤ ((Nat.gcd a.natAbs b.natAbs : Nat) : Int) ∧ ((Nat.gcd a.natAbs b.natAbs : Nat) : Int) < 4611686018427387904 := gcd_bd ha hb h
set_option maxHeartbeats 4000000 in
set_option maxRecDepth 20000 in
theorem c_X7_takeSpot (g : Gx) {q : Nat → Nat} {σ : Nat → Nat → Int} (hby : 0 < σ 0 11) (b0 : Bd (σ 9 0) 1920000000) (b1 : Bd (σ 9 1) 1920000000) (b2 : Bd (σ 9 2) 960000) (b3 : Bd (σ 0 11) 96000000) (hL : LB σ) : MC g yX7_takeSpot cX7_takeSpot 12 (none) 2 69 (WM g q σ) [.ref (q 0)] (fun u => WM g q u) (pV (fun u => TS σ u)) := by
  refine MC_intro (own := RX7) rfl (by decide) (Nat.le_of_ble_eq_true rfl) (fun K C T => ?_)
  show GJ g K (WM g q σ) 0 [(0, .ref (q 0))] []
  have gg := gc4_ok (s0 := σ 9 0) (s1 := σ 9 1) (s2 := σ 9 2) hby
  refine g_aload_n 0 C rfl dX7_takeSpot_0 rfl ?_
  refine gf_X7_39 C dX7_takeSpot_1 ?_
  refine g_iconst C dX7_takeSpot_4 ?_
  refine g_lald C 9 0 (by decide) (fun _ => rfl) (by omega) (by omega) (by decide) dX7_takeSpot_5 ?_
  refine g_aload_n 0 C rfl dX7_takeSpot_6 rfl ?_
  refine gf_X7_39 C dX7_takeSpot_7 ?_
  refine g_iconst C dX7_takeSpot_10 ?_
  refine g_lald C 9 1 (by decide) (fun _ => rfl) (by omega) (by omega) (by decide) dX7_takeSpot_11 ?_
  refine g_callSL C (c_X7_common g (a := σ 9 0) (b := σ 9 1) (b0.M (by decide)) (b1.M (by decide))) gs_X7_125 yd_X7_common ⟨by decide, by decide⟩ rfl (Nat.le_of_ble_eq_true rfl) dX7_takeSpot_12 ?_
  rintro _ rfl
  refine g_aload_n 0 C rfl dX7_takeSpot_15 rfl ?_
  refine gf_X7_39 C dX7_takeSpot_16 ?_
  refine g_iconst C dX7_takeSpot_19 ?_
  refine g_lald C 9 2 (by decide) (fun _ => rfl) (by omega) (by omega) (by decide) dX7_takeSpot_20 ?_
  refine g_aload_n 0 C rfl dX7_takeSpot_21 rfl ?_
  refine gf_X7_91 C dX7_takeSpot_22 ?_
  refine g_callSL C (c_X7_common g (a := σ 9 2) (b := σ 0 11) (b2.M (by decide)) (b3.M (by decide))) gs_X7_125 yd_X7_common ⟨by decide, by decide⟩ rfl (Nat.le_of_ble_eq_true rfl) dX7_takeSpot_25 ?_
  rintro _ rfl
  refine g_callSL C (c_X7_common g (a := ((Nat.gcd (σ 9 0).natAbs (σ 9 1).natAbs : Nat) : Int)) (b := ((Nat.gcd (σ 9 2).natAbs (σ 0 11).natAbs : Nat) : Int)) (by have h1 := gcd_bd b0 b1 (by decide); have h2 := gcd_bd2 b2 b3 hby (by decide); omega) (by have h1 := gcd_bd b0 b1 (by decide); have h2 := gcd_bd2 b2 b3 hby (by decide); omega)) gs_X7_125 yd_X7_common ⟨by decide, by decide⟩ rfl (Nat.le_of_ble_eq_true rfl) dX7_takeSpot_28 ?_
  rintro _ rfl
  refine g_lname (fun w1 ew1 => ?_)
  refine g_lstore_n (lv' := [(0, .ref (q 0)), (1, .long (lZ w1))]) [1, 0] C dX7_takeSpot_31 rfl (by decide) rfl ?_
  refine g_aload_n 0 C rfl dX7_takeSpot_32 rfl ?_
  refine gf_X7_39 C dX7_takeSpot_33 ?_
  refine g_iconst C dX7_takeSpot_36 ?_
  refine g_lald C 9 0 (by decide) (fun _ => rfl) (by omega) (by omega) (by decide) dX7_takeSpot_37 ?_
  refine g_lload_n 1 C rfl dX7_takeSpot_38 rfl ?_
  refine g_ldiv C dX7_takeSpot_39 (b0.I (by decide)) (by rw [ew1]; have h1 := gg.1; have h2 := gg.2.1; have h3 := b3.2; unfold I64; exact ⟨Int.le_trans (by decide) (Int.le_of_lt h1), Int.lt_of_le_of_lt (Int.le_trans h2 h3) (by decide)⟩) (by rw [ew1]; exact (Int.ne_of_lt gg.1).symm) ?_
  refine g_lname (fun w2 ew2 => ?_)
  refine g_lstore_n (lv' := [(0, .ref (q 0)), (1, .long (lZ w1)), (3, .long (lZ w2))]) [1, 2, 0] C dX7_takeSpot_40 rfl (by decide) rfl ?_
  refine g_aload_n 0 C rfl dX7_takeSpot_41 rfl ?_
  refine gf_X7_39 C dX7_takeSpot_42 ?_
  refine g_iconst C dX7_takeSpot_45 ?_
  refine g_lald C 9 1 (by decide) (fun _ => rfl) (by omega) (by omega) (by decide) dX7_takeSpot_46 ?_
  refine g_lload_n 1 C rfl dX7_takeSpot_47 rfl ?_
  refine g_ldiv C dX7_takeSpot_48 (b1.I (by decide)) (by rw [ew1]; have h1 := gg.1; have h2 := gg.2.1; have h3 := b3.2; unfold I64; exact ⟨Int.le_trans (by decide) (Int.le_of_lt h1), Int.lt_of_le_of_lt (Int.le_trans h2 h3) (by decide)⟩) (by rw [ew1]; exact (Int.ne_of_lt gg.1).symm) ?_
  refine g_lname (fun w3 ew3 => ?_)
  refine g_lstore (lv' := [(0, .ref (q 0)), (1, .long (lZ w1)), (3, .long (lZ w2)), (5, .long (lZ w3))]) [1, 2, 3, 0] C dX7_takeSpot_49 (by decide) rfl ?_
  refine g_aload_n 0 C rfl dX7_takeSpot_51 rfl ?_
  refine gf_X7_39 C dX7_takeSpot_52 ?_
  refine g_iconst C dX7_takeSpot_55 ?_
  refine g_lald C 9 2 (by decide) (fun _ => rfl) (by omega) (by omega) (by decide) dX7_takeSpot_56 ?_
  refine g_lload_n 1 C rfl dX7_takeSpot_57 rfl ?_
  refine g_ldiv C dX7_takeSpot_58 (b2.I (by decide)) (by rw [ew1]; have h1 := gg.1; have h2 := gg.2.1; have h3 := b3.2; unfold I64; exact ⟨Int.le_trans (by decide) (Int.le_of_lt h1), Int.lt_of_le_of_lt (Int.le_trans h2 h3) (by decide)⟩) (by rw [ew1]; exact (Int.ne_of_lt gg.1).symm) ?_
  refine g_lname (fun w4 ew4 => ?_)
  refine g_lstore (lv' := [(0, .ref (q 0)), (1, .long (lZ w1)), (3, .long (lZ w2)), (5, .long (lZ w3)), (7, .long (lZ w4))]) [1, 2, 3, 4, 0] C dX7_takeSpot_59 (by decide) rfl ?_
  refine g_aload_n 0 C rfl dX7_takeSpot_61 rfl ?_
  refine gf_X7_91 C dX7_takeSpot_62 ?_
  refine g_lload_n 1 C rfl dX7_takeSpot_65 rfl ?_
  refine g_ldiv C dX7_takeSpot_66 (b3.I (by decide)) (by rw [ew1]; have h1 := gg.1; have h2 := gg.2.1; have h3 := b3.2; unfold I64; exact ⟨Int.le_trans (by decide) (Int.le_of_lt h1), Int.lt_of_le_of_lt (Int.le_trans h2 h3) (by decide)⟩) (by rw [ew1]; exact (Int.ne_of_lt gg.1).symm) ?_
  refine g_lname (fun w5 ew5 => ?_)
  refine g_lstore (lv' := [(0, .ref (q 0)), (1, .long (lZ w1)), (3, .long (lZ w2)), (5, .long (lZ w3)), (7, .long (lZ w4)), (9, .long (lZ w5))]) [1, 2, 3, 4, 5, 0] C dX7_takeSpot_67 (by decide) rfl ?_
  obtain ⟨g1, g2, g3, g4, g5, g6⟩ := gg
  change w1 = gc4 (σ 9 0) (σ 9 1) (σ 9 2) (σ 0 11) at ew1
  rw [← ew1] at g1 g2 g3 g4 g5 g6
  rw [← ew2] at g3
  rw [← ew3] at g4
  rw [← ew4] at g5
  rw [← ew5] at g6
  have hd9 : 0 < w5 := by
    rcases (show w5 ≤ 0 ∨ 0 < w5 by omega) with h | h
    · have := Int.mul_nonpos_of_nonpos_of_nonneg h (Int.le_of_lt g1); omega
    · exact h
  exact ts_X7_69 g1 g3.symm g4.symm g5.symm g6.symm hd9 ⟨b3.quo g1 g6, b0.quo g1 g3, b1.quo g1 g4, b2.quo g1 g5⟩ hL C T
