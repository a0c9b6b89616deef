theorem half_mul {x y : Nat} (hy : 0 < y) (h : y ≤ x) : 2 * (y * (x % y)) ≤ x * y := by
  have h1 := Nat.mod_lt x hy
  have h2 : y + x % y ≤ x := by
    have h3 := Nat.div_add_mod x y
    have h4 : 1 ≤ x / y := Nat.div_pos h hy
    have h5 : y * 1 ≤ y * (x / y) := Nat.mul_le_mul_left y h4
    omega
  have h3 : 2 * (x % y) ≤ x := by omega
  calc 2 * (y * (x % y)) = y * (2 * (x % y)) := by rw [Nat.mul_left_comm]
    _ ≤ y * x := Nat.mul_le_mul_left y h3
    _ = x * y := Nat.mul_comm _ _
set_option maxHeartbeats 4000000 in
set_option maxRecDepth 20000 in
theorem lp_X2_common {g : Gx} {K : Kx} {Z : Int} (C : CX g K cX2_commonDivisor RX2 7 0 0) (T : RT g K (some .long) (fun _ : Unit => []) (pL (fun z _ => z = Z))) : ∀ (d t x y : Nat), t ≤ 100 → 100 < t + d → (t = 0 ∨ y ≤ x) → x < 281474976710656 → y < 281474976710656 → (t = 0 ∨ x * y * 2 ^ t ≤ 2 ^ 97) → (Nat.gcd x y : Int) = Z → GJ g K [] 3 [(0, .long (lZ (x : Int))), (2, .long (lZ (y : Int))), (4, .int (iZ (t : Int)))] [] := by
  intro d
  induction d with
  | zero => intro t x y h1 h2; omega
  | succ d ih =>
    intro t x y k1 k2 k3 kx ky k4 hZ
    refine g_iload 2 C rfl dX2_commonDivisor_3 ?_
    refine g_bipush C dX2_commonDivisor_5 (by decide) ?_
    refine g_icmp_ge 32 C (by unfold I32; omega) (by unfold I32; omega) dX2_commonDivisor_7 (by decide) (fun h1 => ?_) (fun h1 => ?_)
    · refine g_lload_n 0 C rfl dX2_commonDivisor_32 rfl ?_
      refine g_lret (u := ()) C T dX2_commonDivisor_33 ?_
      refine ⟨_, rfl, ?_⟩
      have e9 : y = 0 := by
        rcases Nat.eq_zero_or_pos y with h | h
        · exact h
        · exfalso
          have ht : t = 100 := by omega
          subst ht
          rcases k4 with k4 | k4
          · omega
          · have q1 : 1 * 1 ≤ x * y := Nat.mul_le_mul (by omega) h
            have q2 : x * y * 2 ^ 100 ≥ 1 * 2 ^ 100 := Nat.mul_le_mul_right _ q1
            have q3 : (2 : Nat) ^ 97 < 1 * 2 ^ 100 := by decide
            omega
      subst e9
      rw [← hZ, Nat.gcd_zero_right]
    · refine g_lload_n 1 C rfl dX2_commonDivisor_10 rfl ?_
      refine g_lconst 0 C dX2_commonDivisor_11 (by decide) ?_
      refine g_lcmp_eq 32 C (by unfold I64; omega) (by unfold I64; omega) dX2_commonDivisor_12 dX2_commonDivisor_13 (by decide) (fun h2 => ?_) (fun h2 => ?_)
      · refine g_lload_n 0 C rfl dX2_commonDivisor_32 rfl ?_
        refine g_lret (u := ()) C T dX2_commonDivisor_33 ?_
        refine ⟨_, rfl, ?_⟩
        have e9 : y = 0 := by
          rcases Nat.eq_zero_or_pos y with h | h
          · exact h
          · exfalso
            omega
        subst e9
        rw [← hZ, Nat.gcd_zero_right]
      · refine g_lload_n 0 C rfl dX2_commonDivisor_16 rfl ?_
        refine g_lload_n 1 C rfl dX2_commonDivisor_17 rfl ?_
        refine g_lrem C dX2_commonDivisor_18 (by unfold I64; omega) (by unfold I64; omega) (by omega) ?_
        refine g_lname (fun w3 ew3 => ?_)
        refine g_lstore (lv' := [(0, .long (lZ (x : Int))), (2, .long (lZ (y : Int))), (4, .int (iZ (t : Int))), (5, .long (lZ w3))]) [1, 2, 3, 0] C dX2_commonDivisor_19 (by decide) rfl ?_
        refine g_lload_n 1 C rfl dX2_commonDivisor_21 rfl ?_
        refine g_lstore_n (lv' := [(0, .long (lZ (y : Int))), (2, .long (lZ (y : Int))), (4, .int (iZ (t : Int))), (5, .long (lZ w3))]) [0, 1, 2, 3] C dX2_commonDivisor_22 rfl (by decide) rfl ?_
        refine g_lload 3 C rfl dX2_commonDivisor_23 ?_
        refine g_lstore_n (lv' := [(0, .long (lZ (y : Int))), (2, .long (lZ w3)), (4, .int (iZ (t : Int))), (5, .long (lZ w3))]) [1, 0, 2, 3] C dX2_commonDivisor_25 rfl (by decide) rfl ?_
        refine g_iinc (lv' := [(0, .long (lZ (y : Int))), (2, .long (lZ w3)), (4, .int (iZ ((t : Int) + 1))), (5, .long (lZ w3))]) 2 [1, 2, 0, 3] C rfl dX2_commonDivisor_26 (by decide) rfl ?_
        refine g_goto 3 C dX2_commonDivisor_29 (by decide) ?_
        have e9 : w3 = ((x % y : Nat) : Int) := by rw [ew3]; exact (Int.ofNat_tmod x y).symm
        subst e9
        refine g_lv [0, 1, 2] rfl ?_
        have hp : 0 < y := by omega
        have hm := Nat.mod_lt x hp
        refine ih (t + 1) y (x % y) (by omega) (by omega) (Or.inr (by omega)) (by omega) (by omega) (Or.inr ?_) (by rw [← hZ, Nat.gcd_comm x y, Nat.gcd_rec y x, Nat.gcd_comm])
        rcases k3 with rfl | k3
        · have q1 : y * (x % y) ≤ 281474976710656 * 281474976710656 := Nat.mul_le_mul (by omega) (by omega)
          omega
        · rcases k4 with rfl | k4
          · have q1 : y * (x % y) ≤ 281474976710656 * 281474976710656 := Nat.mul_le_mul (by omega) (by omega)
            omega
          · have q1 := half_mul hp k3
            calc y * (x % y) * 2 ^ (t + 1) = 2 * (y * (x % y)) * 2 ^ t := by rw [Nat.pow_succ]; grind
              _ ≤ x * y * 2 ^ t := Nat.mul_le_mul_right _ q1
              _ ≤ 2 ^ 97 := k4
set_option maxHeartbeats 4000000 in
set_option maxRecDepth 20000 in
theorem c_X2_commonDivisor (g : Gx) {a b : Int} (h_a : 0 ≤ a ∧ a < 281474976710656) (h_b : 0 ≤ b ∧ b < 281474976710656) : MC g yX2_commonDivisor cX2_commonDivisor 7 ((some .long)) 0 0 [] [.long (lZ a), .long (lZ b)] (fun _ : Unit => []) (pL (fun z _ => z = gcZ a b)) := by
  refine MC_intro (own := RX2) rfl (by decide) (Nat.le_of_ble_eq_true rfl) (fun K C T => ?_)
  show GJ g K [] 0 [(0, .long (lZ a)), (2, .long (lZ b))] []
  refine g_iconst C dX2_commonDivisor_0 ?_
  refine g_istore (lv' := [(0, .long (lZ a)), (2, .long (lZ b)), (4, .int (iZ 0))]) [1, 2, 0] C dX2_commonDivisor_1 (by decide) rfl ?_
  have e7 : a = ((a.natAbs : Nat) : Int) := by omega
  have e8 : b = ((b.natAbs : Nat) : Int) := by omega
  have h9 := lp_X2_common C T 101 0 a.natAbs b.natAbs (by omega) (by omega) (Or.inl rfl) (by omega) (by omega) (Or.inl rfl) rfl
  rw [← e7, ← e8] at h9
  exact h9
theorem gcZ_abs {a b : Int} : gcZ (if 0 < a then a else -a) b = gcZ a b := by
  unfold gcZ
  split
  · rfl
  · rw [Int.natAbs_neg]
/-- a fraction without a common divisor -/
def redP (σ : Nat → Nat → Int) (c : Nat) (A B : Int) : Nat → Nat → Int := up (up σ c 0 (A.tdiv (gcZ A B))) c 1 (B.tdiv (gcZ A B))
set_option maxHeartbeats 4000000 in
set_option maxRecDepth 20000 in
theorem c_X2_become (g : Gx) {q : Nat → Nat} {σ : Nat → Nat → Int} {c : Nat} (hfr : c = 24 ∨ c = 25) {A B : Int} (hA : -281474976710656 < A ∧ A < 281474976710656) (hB : 0 < B) (hB2 : B < 281474976710656) : MC g yX2_become cX2_become 7 (none) 1 26 (WC g q σ) [.ref (q c), .long (lZ A), .long (lZ B)] (fun u => WC g q u) (pV (fun u => u = redP σ c A B)) := by
  refine MC_intro (own := RX2) rfl (by decide) (Nat.le_of_ble_eq_true rfl) (fun K C T => ?_)
  show GJ g K (WC g q σ) 0 [(0, .ref (q c)), (1, .long (lZ A)), (3, .long (lZ B))] []
  refine g_lload_n 1 C rfl dX2_become_0 rfl ?_
  refine g_labs C wm_X2_16 (by decide) (Nat.le_of_ble_eq_true rfl) (by unfold I64; omega) dX2_become_1 ?_
  refine g_lload_n 2 C rfl dX2_become_4 rfl ?_
  refine g_callSL C (c_X2_commonDivisor g (a := if 0 < A then A else -A) (b := B) (by split <;> omega) (by omega)) gs_X2_22 yd_X2_commonDivisor ⟨by decide, by decide⟩ rfl (Nat.le_of_ble_eq_true rfl) dX2_become_5 ?_
  rintro _ rfl
  rw [gcZ_abs]
  refine g_lname (fun w1 ew1 => ?_)
  refine g_lstore (lv' := [(0, .ref (q c)), (1, .long (lZ A)), (3, .long (lZ B)), (5, .long (lZ w1))]) [1, 2, 3, 0] C dX2_become_8 (by decide) rfl ?_
  refine g_lload 3 C rfl dX2_become_10 ?_
  refine g_lconst 0 C dX2_become_12 (by decide) ?_
  refine g_lcmp_le 33 C (by rw [ew1]; have h9 := gcZ_pos (a := A) hB; unfold I64; omega) (by unfold I64; omega) dX2_become_13 dX2_become_14 (by decide) (fun h2 => ?_) (fun h2 => ?_)
  · refine g_vret (u := σ) C T dX2_become_33 ?_
    exfalso
    have h9 := (gcZ_pos (a := A) hB).1
    omega
  · refine g_aload_n 0 C rfl dX2_become_17 rfl ?_
    refine g_lload_n 1 C rfl dX2_become_18 rfl ?_
    refine g_lload 3 C rfl dX2_become_19 ?_
    refine g_ldiv C dX2_become_21 (by unfold I64; omega) (by rw [ew1]; have h9 := gcZ_pos (a := A) hB; unfold I64; omega) (by rw [ew1]; have h9 := (gcZ_pos (a := A) hB).1; omega) ?_
    refine pf_X2_7 hfr C dX2_become_22 ?_
    refine g_aload_n 0 C rfl dX2_become_25 rfl ?_
    refine g_lload_n 2 C rfl dX2_become_26 rfl ?_
    refine g_lload 3 C rfl dX2_become_27 ?_
    refine g_ldiv C dX2_become_29 (by unfold I64; omega) (by rw [ew1]; have h9 := gcZ_pos (a := A) hB; unfold I64; omega) (by rw [ew1]; have h9 := (gcZ_pos (a := A) hB).1; omega) ?_
    refine pf_X2_13 hfr C dX2_become_30 ?_
    refine g_vret (u := (up (up σ c 0 (A.tdiv w1)) c 1 (B.tdiv w1))) C T dX2_become_33 ?_
    refine ⟨rfl, ?_⟩
    subst ew1
    rfl
set_option maxHeartbeats 4000000 in
set_option maxRecDepth 20000 in
theorem c_X2_isAbove (g : Gx) {q : Nat → Nat} {σ : Nat → Nat → Int} (hi1 : I64 (σ 24 0 * σ 25 1)) (hi2 : I64 (σ 25 0 * σ 24 1)) : MC g yX2_isAbove cX2_isAbove 2 ((some .boolean)) 0 0 (WC g q σ) [.ref (q 24), .ref (q 25)] (fun _ : Unit => WC g q σ) (pI (fun z _ => z = bZ (σ 25 0 * σ 24 1 < σ 24 0 * σ 25 1))) := by
  refine MC_intro (own := RX2) rfl (by decide) (Nat.le_of_ble_eq_true rfl) (fun K C T => ?_)
  show GJ g K (WC g q σ) 0 [(0, .ref (q 24)), (1, .ref (q 25))] []
  refine g_aload_n 0 C rfl dX2_isAbove_0 rfl ?_
  refine gf_X2_7 (Or.inl rfl) C dX2_isAbove_1 ?_
  refine g_aload_n 1 C rfl dX2_isAbove_4 rfl ?_
  refine gf_X2_13 (Or.inr rfl) C dX2_isAbove_5 ?_
  refine g_lmul C dX2_isAbove_8 ?_
  refine g_aload_n 1 C rfl dX2_isAbove_9 rfl ?_
  refine gf_X2_7 (Or.inr rfl) C dX2_isAbove_10 ?_
  refine g_aload_n 0 C rfl dX2_isAbove_13 rfl ?_
  refine gf_X2_13 (Or.inl rfl) C dX2_isAbove_14 ?_
  refine g_lmul C dX2_isAbove_17 ?_
  refine g_lcmp_le 26 C hi1 hi2 dX2_isAbove_18 dX2_isAbove_19 (by decide) (fun h1 => ?_) (fun h1 => ?_)
  · refine g_iconst C dX2_isAbove_26 ?_
    refine g_zret (u := ()) C T dX2_isAbove_27 (by omega) ?_
    exact ⟨_, rfl, (bZ_f (by omega)).symm⟩
  · refine g_iconst C dX2_isAbove_22 ?_
    refine g_goto 27 C dX2_isAbove_23 (by decide) ?_
    refine g_zret (u := ()) C T dX2_isAbove_27 (by omega) ?_
    exact ⟨_, rfl, (bZ_t (by omega)).symm⟩
set_option maxHeartbeats 4000000 in
set_option maxRecDepth 20000 in
theorem c_X2_part (g : Gx) {q : Nat → Nat} {σ : Nat → Nat → Int} {pt : Int} (h_pt : I32 pt) : MC g yX2_part cX2_part 2 ((some .long)) 0 0 (WC g q σ) [.ref (q 24), .int (iZ pt)] (fun _ : Unit => WC g q σ) (pL (fun z _ => z = if pt = 0 then σ 24 0 else σ 24 1)) := by
  refine MC_intro (own := RX2) rfl (by decide) (Nat.le_of_ble_eq_true rfl) (fun K C T => ?_)
  show GJ g K (WC g q σ) 0 [(0, .ref (q 24)), (1, .int (iZ pt))] []
  refine g_iload_n 1 C rfl dX2_part_0 rfl ?_
  refine g_if_ne 11 C h_pt dX2_part_1 (by decide) (fun h1 => ?_) (fun h1 => ?_)
  · refine g_aload_n 0 C rfl dX2_part_11 rfl ?_
    refine gf_X2_13 (Or.inl rfl) C dX2_part_12 ?_
    refine g_lret (u := ()) C T dX2_part_15 ?_
    refine ⟨_, rfl, ?_⟩
    first | rw [if_pos (by omega)] | rw [if_neg (by omega)]
  · refine g_aload_n 0 C rfl dX2_part_4 rfl ?_
    refine gf_X2_7 (Or.inl rfl) C dX2_part_5 ?_
    refine g_goto 15 C dX2_part_8 (by decide) ?_
    refine g_lret (u := ()) C T dX2_part_15 ?_
    refine ⟨_, rfl, ?_⟩
    first | rw [if_pos (by omega)] | rw [if_neg (by omega)]
def lst (σ : Nat → Nat → Int) (a b : Int) (e : Nat) : Int := σ 8 e * b - σ 9 e * a
def mst (σ : Nat → Nat → Int) (a b : Int) (e : Nat) : Int := σ 8 e * b + σ 9 e * a
/-- the table of triples, within its bounds; entry 0 is the push itself -/
def TB (σ : Nat → Nat → Int) (cnt : Nat) : Prop := cnt ≤ 35 ∧ σ 7 1 = (cnt : Int) ∧ σ 8 0 = 0 ∧ σ 9 0 = 0 ∧ σ 10 0 = 1 ∧ ∀ e, e ≤ cnt → (0 ≤ σ 10 e ∧ σ 10 e ≤ 800000) ∧ Bd (σ 8 e) 1600 ∧ 0 ≤ σ 9 e ∧ σ 9 e ≤ 1600
def PQ (a b : Int) : Prop := 0 ≤ a ∧ a ≤ 2560000000 ∧ 0 < b ∧ b ≤ 2560000000
theorem TB.lst {σ : Nat → Nat → Int} {cnt : Nat} {a b : Int} (h : TB σ cnt) (hq : PQ a b) {e f : Nat} (he : e ≤ cnt) (hf : f ≤ cnt) : I64 (lst σ a b e * σ 10 f) ∧ I64 (mst σ a b e * σ 10 f) := by
  obtain ⟨_, h1, h2, h3⟩ := h.2.2.2.2.2 e he
  obtain ⟨g1, _⟩ := h.2.2.2.2.2 f hf
  obtain ⟨q1, q2, q3, q4⟩ := hq
  have b1 : Bd (σ 9 e) 1600 := ⟨by omega, h3⟩
  have b2 : Bd a 2560000000 := ⟨by omega, q2⟩
  have b3 : Bd b 2560000000 := ⟨by omega, q4⟩
  have b4 : Bd (σ 10 f) 800000 := ⟨by omega, g1.2⟩
  exact ⟨(((h1.mul b3).sub (b1.mul b2)).mul b4).I (by decide), (((h1.mul b3).add (b1.mul b2)).mul b4).I (by decide)⟩
set_option maxHeartbeats 4000000 in
set_option maxRecDepth 20000 in
theorem c_X5_least (g : Gx) {q : Nat → Nat} {σ : Nat → Nat → Int} {oa ob : Int} {e : Nat} (he : e ≤ 35) : MC g yX5_least cX5_least 6 ((some .long)) 0 0 (WC g q σ) [.ref (q 7), .int (iZ (e : Int)), .long (lZ oa), .long (lZ ob)] (fun _ : Unit => WC g q σ) (pL (fun z _ => z = lst σ oa ob e)) := by
  refine MC_intro (own := RX5) rfl (by decide) (Nat.le_of_ble_eq_true rfl) (fun K C T => ?_)
  show GJ g K (WC g q σ) 0 [(0, .ref (q 7)), (1, .int (iZ (e : Int))), (2, .long (lZ oa)), (4, .long (lZ ob))] []
  refine g_aload_n 0 C rfl dX5_least_0 rfl ?_
  refine gf_X5_9 C dX5_least_1 ?_
  refine g_iload_n 1 C rfl dX5_least_4 rfl ?_
  refine g_lald C 8 e (by decide) (fun _ => rfl) (by omega) (by omega) (by decide) dX5_least_5 ?_
  refine g_lload 3 C rfl dX5_least_6 ?_
  refine g_lmul C dX5_least_8 ?_
  refine g_aload_n 0 C rfl dX5_least_9 rfl ?_
  refine gf_X5_13 C dX5_least_10 ?_
  refine g_iload_n 1 C rfl dX5_least_13 rfl ?_
  refine g_lald C 9 e (by decide) (fun _ => rfl) (by omega) (by omega) (by decide) dX5_least_14 ?_
  refine g_lload_n 2 C rfl dX5_least_15 rfl ?_
  refine g_lmul C dX5_least_16 ?_
  refine g_lsub C dX5_least_17 ?_
  refine g_lret (u := ()) C T dX5_least_18 ?_
  exact ⟨_, rfl, rfl⟩
set_option maxHeartbeats 4000000 in
set_option maxRecDepth 20000 in
theorem c_X5_most (g : Gx) {q : Nat → Nat} {σ : Nat → Nat → Int} {oa ob : Int} {e : Nat} (he : e ≤ 35) : MC g yX5_most cX5_most 6 ((some .long)) 0 0 (WC g q σ) [.ref (q 7), .int (iZ (e : Int)), .long (lZ oa), .long (lZ ob)] (fun _ : Unit => WC g q σ) (pL (fun z _ => z = mst σ oa ob e)) := by
  refine MC_intro (own := RX5) rfl (by decide) (Nat.le_of_ble_eq_true rfl) (fun K C T => ?_)
  show GJ g K (WC g q σ) 0 [(0, .ref (q 7)), (1, .int (iZ (e : Int))), (2, .long (lZ oa)), (4, .long (lZ ob))] []
  refine g_aload_n 0 C rfl dX5_most_0 rfl ?_
  refine gf_X5_9 C dX5_most_1 ?_
  refine g_iload_n 1 C rfl dX5_most_4 rfl ?_
  refine g_lald C 8 e (by decide) (fun _ => rfl) (by omega) (by omega) (by decide) dX5_most_5 ?_
  refine g_lload 3 C rfl dX5_most_6 ?_
  refine g_lmul C dX5_most_8 ?_
  refine g_aload_n 0 C rfl dX5_most_9 rfl ?_
  refine gf_X5_13 C dX5_most_10 ?_
  refine g_iload_n 1 C rfl dX5_most_13 rfl ?_
  refine g_lald C 9 e (by decide) (fun _ => rfl) (by omega) (by omega) (by decide) dX5_most_14 ?_
  refine g_lload_n 2 C rfl dX5_most_15 rfl ?_
  refine g_lmul C dX5_most_16 ?_
  refine g_ladd C dX5_most_17 ?_
  refine g_lret (u := ()) C T dX5_most_18 ?_
  exact ⟨_, rfl, rfl⟩
set_option maxHeartbeats 4000000 in
set_option maxRecDepth 20000 in
theorem c_X5_bars (g : Gx) {q : Nat → Nat} {σ : Nat → Nat → Int} {cnt : Nat} (hT : TB σ cnt) {oa ob : Int} (hq : PQ oa ob) {lo hi : Nat} (hlo : lo ≤ cnt) (hhi : hi ≤ cnt) : MC g yX5_bars cX5_bars 7 ((some .boolean)) 1 25 (WC g q σ) [.ref (q 7), .int (iZ (lo : Int)), .int (iZ (hi : Int)), .long (lZ oa), .long (lZ ob)] (fun _ : Unit => WC g q σ) (pI (fun z _ => z = bZ ((hi : Int) ≠ 0 ∧ mst σ oa ob hi * σ 10 lo < lst σ oa ob lo * σ 10 hi))) := by
  refine MC_intro (own := RX5) rfl (by decide) (Nat.le_of_ble_eq_true rfl) (fun K C T => ?_)
  show GJ g K (WC g q σ) 0 [(0, .ref (q 7)), (1, .int (iZ (lo : Int))), (2, .int (iZ (hi : Int))), (3, .long (lZ oa)), (5, .long (lZ ob))] []
  have hc35 := hT.1
  refine g_iload_n 2 C rfl dX5_bars_0 rfl ?_
  refine g_if_eq 42 C (by have := hT.1; unfold I32; omega) dX5_bars_1 (by decide) (fun h1 => ?_) (fun h1 => ?_)
  · refine g_iconst C dX5_bars_42 ?_
    refine g_zret (u := ()) C T dX5_bars_43 (by omega) ?_
    exact ⟨_, rfl, (bZ_f (by omega)).symm⟩
  · refine g_aload_n 0 C rfl dX5_bars_4 rfl ?_
    refine g_iload_n 1 C rfl dX5_bars_5 rfl ?_
    refine g_lload_n 3 C rfl dX5_bars_6 rfl ?_
    refine g_lload 4 C rfl dX5_bars_7 ?_
    refine g_callL C (c_X5_least g (σ := σ) (oa := oa) (ob := ob) (e := lo) (by have := hT.1; omega)) gv_X5_86 yd_X5_least ⟨by decide, by decide⟩ 7 5 (WD_get (by decide)) rfl rfl (Nat.le_of_ble_eq_true rfl) dX5_bars_9 ?_
    rintro _ _ rfl
    refine g_aload_n 0 C rfl dX5_bars_12 rfl ?_
    refine gf_X5_16 C dX5_bars_13 ?_
    refine g_iload_n 2 C rfl dX5_bars_16 rfl ?_
    refine g_lald C 10 hi (by decide) (fun _ => rfl) (by omega) (by omega) (by decide) dX5_bars_17 ?_
    refine g_lmul C dX5_bars_18 ?_
    refine g_aload_n 0 C rfl dX5_bars_19 rfl ?_
    refine g_iload_n 2 C rfl dX5_bars_20 rfl ?_
    refine g_lload_n 3 C rfl dX5_bars_21 rfl ?_
    refine g_lload 4 C rfl dX5_bars_22 ?_
    refine g_callL C (c_X5_most g (σ := σ) (oa := oa) (ob := ob) (e := hi) (by have := hT.1; omega)) gv_X5_90 yd_X5_most ⟨by decide, by decide⟩ 7 5 (WD_get (by decide)) rfl rfl (Nat.le_of_ble_eq_true rfl) dX5_bars_24 ?_
    rintro _ _ rfl
    refine g_aload_n 0 C rfl dX5_bars_27 rfl ?_
    refine gf_X5_16 C dX5_bars_28 ?_
    refine g_iload_n 1 C rfl dX5_bars_31 rfl ?_
    refine g_lald C 10 lo (by decide) (fun _ => rfl) (by omega) (by omega) (by decide) dX5_bars_32 ?_
    refine g_lmul C dX5_bars_33 ?_
    refine g_lcmp_le 42 C ((hT.lst hq (e := lo) (f := hi) (by omega) (by omega)).1) ((hT.lst hq (e := hi) (f := lo) (by omega) (by omega)).2) dX5_bars_34 dX5_bars_35 (by decide) (fun h2 => ?_) (fun h2 => ?_)
    · refine g_iconst C dX5_bars_42 ?_
      refine g_zret (u := ()) C T dX5_bars_43 (by omega) ?_
      exact ⟨_, rfl, (bZ_f (by omega)).symm⟩
    · refine g_iconst C dX5_bars_38 ?_
      refine g_goto 43 C dX5_bars_39 (by decide) ?_
      refine g_zret (u := ()) C T dX5_bars_43 (by omega) ?_
      exact ⟨_, rfl, (bZ_t (by omega)).symm⟩
def TL (σ : Nat → Nat → Int) (cnt : Nat) (a b : Int) (k : Nat) : Prop := k ≤ cnt ∧ 0 < σ 10 k ∧ ∀ e, e ≤ cnt → 0 < σ 10 e → lst σ a b e * σ 10 k ≤ lst σ a b k * σ 10 e
def TM (σ : Nat → Nat → Int) (cnt : Nat) (a b : Int) (k : Nat) : Prop := (k = 0 ∧ ∀ e, 1 ≤ e → e ≤ cnt → ¬ 0 < σ 10 e) ∨ ((1 ≤ k ∧ k ≤ cnt) ∧ 0 < σ 10 k ∧ ∀ e, 1 ≤ e → e ≤ cnt → 0 < σ 10 e → mst σ a b k * σ 10 e ≤ mst σ a b e * σ 10 k)
set_option maxHeartbeats 4000000 in
set_option maxRecDepth 20000 in
theorem lp_X5_tightestLeast {g : Gx} {K : Kx} {q : Nat → Nat} {σ : Nat → Nat → Int} {cnt : Nat} (hT : TB σ cnt) {oa ob : Int} (hq : PQ oa ob) (C : CX g K cX5_tightestLeast RX5 7 1 25) (T : RT g K (some .int) (fun _ : Unit => WC g q σ) (pI (fun z _ => ∃ k : Nat, z = (k : Int) ∧ TL σ cnt oa ob k))) : ∀ (d e : Nat), 1 ≤ e → e ≤ cnt + 1 → cnt + 1 < e + d → ∀ k : Nat, (k < e ∧ 0 < σ 10 k ∧ ∀ e', e' < e → 0 < σ 10 e' → lst σ oa ob e' * σ 10 k ≤ lst σ oa ob k * σ 10 e') → GJ g K (WC g q σ) 6 [(0, .ref (q 7)), (1, .long (lZ oa)), (3, .long (lZ ob)), (5, .int (iZ (k : Int))), (6, .int (iZ (e : Int)))] [] := by
  intro d
  induction d with
  | zero => intro e k0 k1 k2; omega
  | succ d ih =>
    intro e k0 k1 k2 k hI
    have hc35 := hT.1
    refine g_iload 4 C rfl dX5_tightestLeast_6 ?_
    refine g_aload_n 0 C rfl dX5_tightestLeast_8 rfl ?_
    refine gf_X5_29 C dX5_tightestLeast_9 ?_
    rw [show σ 7 1 = (cnt : Int) from hT.2.1]
    refine g_icmp_gt 73 C (by unfold I32; omega) (by unfold I32; omega) dX5_tightestLeast_12 (by decide) (fun h1 => ?_) (fun h1 => ?_)
    · refine g_iload 3 C rfl dX5_tightestLeast_73 ?_
      refine g_iret (u := ()) C T dX5_tightestLeast_75 ?_
      exact ⟨_, rfl, k, rfl, by omega, hI.2.1, fun e' h8 h9 => hI.2.2 e' (by omega) h9⟩
    · refine g_aload_n 0 C rfl dX5_tightestLeast_15 rfl ?_
      refine gf_X5_16 C dX5_tightestLeast_16 ?_
      refine g_iload 4 C rfl dX5_tightestLeast_19 ?_
      refine g_lald C 10 e (by decide) (fun _ => rfl) (by omega) (by omega) (by decide) dX5_tightestLeast_21 ?_
      refine g_lconst 0 C dX5_tightestLeast_22 (by decide) ?_
      refine g_lcmp_le 67 C (by have h9 := (hT.2.2.2.2.2 e (by omega)).1; unfold I64; omega) (by unfold I64; omega) dX5_tightestLeast_23 dX5_tightestLeast_24 (by decide) (fun h2 => ?_) (fun h2 => ?_)
      · refine g_iinc (lv' := [(0, .ref (q 7)), (1, .long (lZ oa)), (3, .long (lZ ob)), (5, .int (iZ (k : Int))), (6, .int (iZ ((e : Int) + 1)))]) 4 [1, 2, 3, 4, 0] C rfl dX5_tightestLeast_67 (by decide) rfl ?_
        refine g_goto 6 C dX5_tightestLeast_70 (by decide) ?_
        refine ih (e + 1) (by omega) (by omega) (by omega) k ?_
        refine ⟨by omega, hI.2.1, fun e' h8 h9 => ?_⟩
        by_cases he : e' = e
        · subst he; omega
        · exact hI.2.2 e' (by omega) h9
      · refine g_aload_n 0 C rfl dX5_tightestLeast_27 rfl ?_
        refine g_iload 4 C rfl dX5_tightestLeast_28 ?_
        refine g_lload_n 1 C rfl dX5_tightestLeast_30 rfl ?_
        refine g_lload_n 2 C rfl dX5_tightestLeast_31 rfl ?_
        refine g_callL C (c_X5_least g (σ := σ) (oa := oa) (ob := ob) (e := e) (by have := hT.1; omega)) gv_X5_86 yd_X5_least ⟨by decide, by decide⟩ 7 5 (WD_get (by decide)) rfl rfl (Nat.le_of_ble_eq_true rfl) dX5_tightestLeast_32 ?_
        rintro _ _ rfl
        refine g_aload_n 0 C rfl dX5_tightestLeast_35 rfl ?_
        refine gf_X5_16 C dX5_tightestLeast_36 ?_
        refine g_iload 3 C rfl dX5_tightestLeast_39 ?_
        refine g_lald C 10 k (by decide) (fun _ => rfl) (by omega) (by omega) (by decide) dX5_tightestLeast_41 ?_
        refine g_lmul C dX5_tightestLeast_42 ?_
        refine g_aload_n 0 C rfl dX5_tightestLeast_43 rfl ?_
        refine g_iload 3 C rfl dX5_tightestLeast_44 ?_
        refine g_lload_n 1 C rfl dX5_tightestLeast_46 rfl ?_
        refine g_lload_n 2 C rfl dX5_tightestLeast_47 rfl ?_
        refine g_callL C (c_X5_least g (σ := σ) (oa := oa) (ob := ob) (e := k) (by have := hT.1; omega)) gv_X5_86 yd_X5_least ⟨by decide, by decide⟩ 7 5 (WD_get (by decide)) rfl rfl (Nat.le_of_ble_eq_true rfl) dX5_tightestLeast_48 ?_
        rintro _ _ rfl
        refine g_aload_n 0 C rfl dX5_tightestLeast_51 rfl ?_
        refine gf_X5_16 C dX5_tightestLeast_52 ?_
        refine g_iload 4 C rfl dX5_tightestLeast_55 ?_
        refine g_lald C 10 e (by decide) (fun _ => rfl) (by omega) (by omega) (by decide) dX5_tightestLeast_57 ?_
        refine g_lmul C dX5_tightestLeast_58 ?_
        refine g_lcmp_le 67 C ((hT.lst hq (e := e) (f := k) (by omega) (by omega)).1) ((hT.lst hq (e := k) (f := e) (by omega) (by omega)).1) dX5_tightestLeast_59 dX5_tightestLeast_60 (by decide) (fun h3 => ?_) (fun h3 => ?_)
        · refine g_iinc (lv' := [(0, .ref (q 7)), (1, .long (lZ oa)), (3, .long (lZ ob)), (5, .int (iZ (k : Int))), (6, .int (iZ ((e : Int) + 1)))]) 4 [1, 2, 3, 4, 0] C rfl dX5_tightestLeast_67 (by decide) rfl ?_
          refine g_goto 6 C dX5_tightestLeast_70 (by decide) ?_
          refine ih (e + 1) (by omega) (by omega) (by omega) k ?_
          refine ⟨by omega, hI.2.1, fun e' h8 h9 => ?_⟩
          by_cases he : e' = e
          · subst he; omega
          · exact hI.2.2 e' (by omega) h9
        · refine g_iload 4 C rfl dX5_tightestLeast_63 ?_
          refine g_istore (lv' := [(0, .ref (q 7)), (1, .long (lZ oa)), (3, .long (lZ ob)), (5, .int (iZ (e : Int))), (6, .int (iZ (e : Int)))]) [1, 2, 3, 0, 4] C dX5_tightestLeast_65 (by decide) rfl ?_
          refine g_iinc (lv' := [(0, .ref (q 7)), (1, .long (lZ oa)), (3, .long (lZ ob)), (5, .int (iZ (e : Int))), (6, .int (iZ ((e : Int) + 1)))]) 4 [1, 2, 3, 4, 0] C rfl dX5_tightestLeast_67 (by decide) rfl ?_
          refine g_goto 6 C dX5_tightestLeast_70 (by decide) ?_
          refine ih (e + 1) (by omega) (by omega) (by omega) e ?_
          refine ⟨by omega, by omega, fun e' h8 h9 => ?_⟩
          by_cases he : e' = e
          · subst he; exact Int.le_refl _
          · exact cr_le (a := lst σ oa ob e) (x := σ 10 e) (b := lst σ oa ob k) (y := σ 10 k) (c := lst σ oa ob e') (z := σ 10 e') (by omega) hI.2.1 h9 (by omega) (hI.2.2 e' (by omega) h9)
set_option maxHeartbeats 4000000 in
set_option maxRecDepth 20000 in
theorem c_X5_tightestLeast (g : Gx) {q : Nat → Nat} {σ : Nat → Nat → Int} {cnt : Nat} (hT : TB σ cnt) {oa ob : Int} (hq : PQ oa ob) : MC g yX5_tightestLeast cX5_tightestLeast 7 ((some .int)) 1 25 (WC g q σ) [.ref (q 7), .long (lZ oa), .long (lZ ob)] (fun _ : Unit => WC g q σ) (pI (fun z _ => ∃ k : Nat, z = (k : Int) ∧ TL σ cnt oa ob k)) := by
  refine MC_intro (own := RX5) rfl (by decide) (Nat.le_of_ble_eq_true rfl) (fun K C T => ?_)
  show GJ g K (WC g q σ) 0 [(0, .ref (q 7)), (1, .long (lZ oa)), (3, .long (lZ ob))] []
  refine g_iconst C dX5_tightestLeast_0 ?_
  refine g_istore (lv' := [(0, .ref (q 7)), (1, .long (lZ oa)), (3, .long (lZ ob)), (5, .int (iZ 0))]) [1, 2, 3, 0] C dX5_tightestLeast_1 (by decide) rfl ?_
  refine g_iconst C dX5_tightestLeast_3 ?_
  refine g_istore (lv' := [(0, .ref (q 7)), (1, .long (lZ oa)), (3, .long (lZ ob)), (5, .int (iZ 0)), (6, .int (iZ 1))]) [1, 2, 3, 4, 0] C dX5_tightestLeast_4 (by decide) rfl ?_
  refine lp_X5_tightestLeast hT hq C T (cnt + 1) 1 (by omega) (by omega) (by omega) 0 ⟨by omega, by rw [hT.2.2.2.2.1]; decide, fun e' h8 h9 => ?_⟩
  rw [show e' = 0 by omega]
  exact Int.le_refl _
set_option maxHeartbeats 4000000 in
set_option maxRecDepth 20000 in
theorem lp_X5_tightestMost {g : Gx} {K : Kx} {q : Nat → Nat} {σ : Nat → Nat → Int} {cnt : Nat} (hT : TB σ cnt) {oa ob : Int} (hq : PQ oa ob) (C : CX g K cX5_tightestMost RX5 7 1 25) (T : RT g K (some .int) (fun _ : Unit => WC g q σ) (pI (fun z _ => ∃ k : Nat, z = (k : Int) ∧ TM σ cnt oa ob k))) : ∀ (d e : Nat), 1 ≤ e → e ≤ cnt + 1 → cnt + 1 < e + d → ∀ k : Nat, ((k = 0 ∧ ∀ e', 1 ≤ e' → e' < e → ¬ 0 < σ 10 e') ∨ ((1 ≤ k ∧ k < e) ∧ 0 < σ 10 k ∧ ∀ e', 1 ≤ e' → e' < e → 0 < σ 10 e' → mst σ oa ob k * σ 10 e' ≤ mst σ oa ob e' * σ 10 k)) → GJ g K (WC g q σ) 6 [(0, .ref (q 7)), (1, .long (lZ oa)), (3, .long (lZ ob)), (5, .int (iZ (k : Int))), (6, .int (iZ (e : Int)))] [] := by
  intro d
  induction d with
  | zero => intro e k0 k1 k2; omega
  | succ d ih =>
    intro e k0 k1 k2 k hI
    have hc35 := hT.1
    refine g_iload 4 C rfl dX5_tightestMost_6 ?_
    refine g_aload_n 0 C rfl dX5_tightestMost_8 rfl ?_
    refine gf_X5_29 C dX5_tightestMost_9 ?_
    rw [show σ 7 1 = (cnt : Int) from hT.2.1]
    refine g_icmp_gt 78 C (by unfold I32; omega) (by unfold I32; omega) dX5_tightestMost_12 (by decide) (fun h1 => ?_) (fun h1 => ?_)
    · refine g_iload 3 C rfl dX5_tightestMost_78 ?_
      refine g_iret (u := ()) C T dX5_tightestMost_80 ?_
      refine ⟨_, rfl, k, rfl, ?_⟩
      rcases hI with ⟨h5, h6⟩ | ⟨h4, h5, h6⟩
      · exact Or.inl ⟨h5, fun e' h7 h8 => h6 e' h7 (by omega)⟩
      · exact Or.inr ⟨by omega, h5, fun e' h7 h8 h9 => h6 e' h7 (by omega) h9⟩
    · refine g_aload_n 0 C rfl dX5_tightestMost_15 rfl ?_
      refine gf_X5_16 C dX5_tightestMost_16 ?_
      refine g_iload 4 C rfl dX5_tightestMost_19 ?_
      refine g_lald C 10 e (by decide) (fun _ => rfl) (by omega) (by omega) (by decide) dX5_tightestMost_21 ?_
      refine g_lconst 0 C dX5_tightestMost_22 (by decide) ?_
      refine g_lcmp_le 72 C (by have h9 := (hT.2.2.2.2.2 e (by omega)).1; unfold I64; omega) (by unfold I64; omega) dX5_tightestMost_23 dX5_tightestMost_24 (by decide) (fun h2 => ?_) (fun h2 => ?_)
      · refine g_iinc (lv' := [(0, .ref (q 7)), (1, .long (lZ oa)), (3, .long (lZ ob)), (5, .int (iZ (k : Int))), (6, .int (iZ ((e : Int) + 1)))]) 4 [1, 2, 3, 4, 0] C rfl dX5_tightestMost_72 (by decide) rfl ?_
        refine g_goto 6 C dX5_tightestMost_75 (by decide) ?_
        refine ih (e + 1) (by omega) (by omega) (by omega) k ?_
        rcases hI with ⟨h5, h6⟩ | ⟨h4, h5, h6⟩
        · exact Or.inl ⟨h5, fun e' h7 h8 => by by_cases he : e' = e; (· subst he; omega); exact h6 e' h7 (by omega)⟩
        · refine Or.inr ⟨by omega, h5, fun e' h7 h8 h9 => ?_⟩
          by_cases he : e' = e
          · subst he; omega
          · exact h6 e' h7 (by omega) h9
      · refine g_iload 3 C rfl dX5_tightestMost_27 ?_
        refine g_if_eq 68 C (by unfold I32; omega) dX5_tightestMost_29 (by decide) (fun h3 => ?_) (fun h3 => ?_)
        · refine g_iload 4 C rfl dX5_tightestMost_68 ?_
          refine g_istore (lv' := [(0, .ref (q 7)), (1, .long (lZ oa)), (3, .long (lZ ob)), (5, .int (iZ (e : Int))), (6, .int (iZ (e : Int)))]) [1, 2, 3, 0, 4] C dX5_tightestMost_70 (by decide) rfl ?_
          refine g_iinc (lv' := [(0, .ref (q 7)), (1, .long (lZ oa)), (3, .long (lZ ob)), (5, .int (iZ (e : Int))), (6, .int (iZ ((e : Int) + 1)))]) 4 [1, 2, 3, 4, 0] C rfl dX5_tightestMost_72 (by decide) rfl ?_
          refine g_goto 6 C dX5_tightestMost_75 (by decide) ?_
          refine ih (e + 1) (by omega) (by omega) (by omega) e ?_
          refine Or.inr ⟨by omega, by omega, fun e' h7 h8 h9 => ?_⟩
          by_cases he : e' = e
          · subst he; exact Int.le_refl _
          · rcases hI with ⟨_, h6⟩ | ⟨h4, h5, h6⟩
            · exact absurd h9 (h6 e' h7 (by omega))
            · omega
        · refine g_aload_n 0 C rfl dX5_tightestMost_32 rfl ?_
          refine g_iload 4 C rfl dX5_tightestMost_33 ?_
          refine g_lload_n 1 C rfl dX5_tightestMost_35 rfl ?_
          refine g_lload_n 2 C rfl dX5_tightestMost_36 rfl ?_
          refine g_callL C (c_X5_most g (σ := σ) (oa := oa) (ob := ob) (e := e) (by have := hT.1; omega)) gv_X5_90 yd_X5_most ⟨by decide, by decide⟩ 7 5 (WD_get (by decide)) rfl rfl (Nat.le_of_ble_eq_true rfl) dX5_tightestMost_37 ?_
          rintro _ _ rfl
          refine g_aload_n 0 C rfl dX5_tightestMost_40 rfl ?_
          refine gf_X5_16 C dX5_tightestMost_41 ?_
          refine g_iload 3 C rfl dX5_tightestMost_44 ?_
          refine g_lald C 10 k (by decide) (fun _ => rfl) (by omega) (by omega) (by decide) dX5_tightestMost_46 ?_
          refine g_lmul C dX5_tightestMost_47 ?_
          refine g_aload_n 0 C rfl dX5_tightestMost_48 rfl ?_
          refine g_iload 3 C rfl dX5_tightestMost_49 ?_
          refine g_lload_n 1 C rfl dX5_tightestMost_51 rfl ?_
          refine g_lload_n 2 C rfl dX5_tightestMost_52 rfl ?_
          refine g_callL C (c_X5_most g (σ := σ) (oa := oa) (ob := ob) (e := k) (by have := hT.1; omega)) gv_X5_90 yd_X5_most ⟨by decide, by decide⟩ 7 5 (WD_get (by decide)) rfl rfl (Nat.le_of_ble_eq_true rfl) dX5_tightestMost_53 ?_
          rintro _ _ rfl
          refine g_aload_n 0 C rfl dX5_tightestMost_56 rfl ?_
          refine gf_X5_16 C dX5_tightestMost_57 ?_
          refine g_iload 4 C rfl dX5_tightestMost_60 ?_
          refine g_lald C 10 e (by decide) (fun _ => rfl) (by omega) (by omega) (by decide) dX5_tightestMost_62 ?_
          refine g_lmul C dX5_tightestMost_63 ?_
          refine g_lcmp_ge 72 C ((hT.lst hq (e := e) (f := k) (by omega) (by omega)).2) ((hT.lst hq (e := k) (f := e) (by omega) (by omega)).2) dX5_tightestMost_64 dX5_tightestMost_65 (by decide) (fun h4 => ?_) (fun h4 => ?_)
          · refine g_iinc (lv' := [(0, .ref (q 7)), (1, .long (lZ oa)), (3, .long (lZ ob)), (5, .int (iZ (k : Int))), (6, .int (iZ ((e : Int) + 1)))]) 4 [1, 2, 3, 4, 0] C rfl dX5_tightestMost_72 (by decide) rfl ?_
            refine g_goto 6 C dX5_tightestMost_75 (by decide) ?_
            refine ih (e + 1) (by omega) (by omega) (by omega) k ?_
            rcases hI with ⟨h5, h6⟩ | ⟨h4, h5, h6⟩
            · exact Or.inl ⟨h5, fun e' h7 h8 => by by_cases he : e' = e; (· subst he; omega); exact h6 e' h7 (by omega)⟩
            · refine Or.inr ⟨by omega, h5, fun e' h7 h8 h9 => ?_⟩
              by_cases he : e' = e
              · subst he; omega
              · exact h6 e' h7 (by omega) h9
          · refine g_iload 4 C rfl dX5_tightestMost_68 ?_
            refine g_istore (lv' := [(0, .ref (q 7)), (1, .long (lZ oa)), (3, .long (lZ ob)), (5, .int (iZ (e : Int))), (6, .int (iZ (e : Int)))]) [1, 2, 3, 0, 4] C dX5_tightestMost_70 (by decide) rfl ?_
            refine g_iinc (lv' := [(0, .ref (q 7)), (1, .long (lZ oa)), (3, .long (lZ ob)), (5, .int (iZ (e : Int))), (6, .int (iZ ((e : Int) + 1)))]) 4 [1, 2, 3, 4, 0] C rfl dX5_tightestMost_72 (by decide) rfl ?_
            refine g_goto 6 C dX5_tightestMost_75 (by decide) ?_
            refine ih (e + 1) (by omega) (by omega) (by omega) e ?_
            refine Or.inr ⟨by omega, by omega, fun e' h7 h8 h9 => ?_⟩
            by_cases he : e' = e
            · subst he; exact Int.le_refl _
            · rcases hI with ⟨_, h6⟩ | ⟨h4, h5, h6⟩
              · exact absurd h9 (h6 e' h7 (by omega))
              · exact cr_le (a := mst σ oa ob e') (x := σ 10 e') (b := mst σ oa ob k) (y := σ 10 k) (c := mst σ oa ob e) (z := σ 10 e) h9 h5 (by omega) (h6 e' h7 (by omega) h9) (by omega)
set_option maxHeartbeats 4000000 in
set_option maxRecDepth 20000 in
theorem c_X5_tightestMost (g : Gx) {q : Nat → Nat} {σ : Nat → Nat → Int} {cnt : Nat} (hT : TB σ cnt) {oa ob : Int} (hq : PQ oa ob) : MC g yX5_tightestMost cX5_tightestMost 7 ((some .int)) 1 25 (WC g q σ) [.ref (q 7), .long (lZ oa), .long (lZ ob)] (fun _ : Unit => WC g q σ) (pI (fun z _ => ∃ k : Nat, z = (k : Int) ∧ TM σ cnt oa ob k)) := by
  refine MC_intro (own := RX5) rfl (by decide) (Nat.le_of_ble_eq_true rfl) (fun K C T => ?_)
  show GJ g K (WC g q σ) 0 [(0, .ref (q 7)), (1, .long (lZ oa)), (3, .long (lZ ob))] []
  refine g_iconst C dX5_tightestMost_0 ?_
  refine g_istore (lv' := [(0, .ref (q 7)), (1, .long (lZ oa)), (3, .long (lZ ob)), (5, .int (iZ 0))]) [1, 2, 3, 0] C dX5_tightestMost_1 (by decide) rfl ?_
  refine g_iconst C dX5_tightestMost_3 ?_
  refine g_istore (lv' := [(0, .ref (q 7)), (1, .long (lZ oa)), (3, .long (lZ ob)), (5, .int (iZ 0)), (6, .int (iZ 1))]) [1, 2, 3, 4, 0] C dX5_tightestMost_4 (by decide) rfl ?_
  exact lp_X5_tightestMost hT hq C T (cnt + 1) 1 (by omega) (by omega) (by omega) 0 (Or.inl ⟨rfl, fun e' h8 h9 => by omega⟩)
