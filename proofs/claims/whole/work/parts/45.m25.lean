noncomputable def cntP (P : Nat → Prop) : Nat → Nat
  | 0 => 0
  | (k + 1) => cntP P k + (bZ (P k)).toNat
theorem cnt_b (P : Nat → Prop) : ∀ N, cntP P N ≤ N
  | 0 => Nat.le_refl 0
  | (k + 1) => by
    have := cnt_b P k
    rcases bZ_or (P k) with h | h <;> simp only [cntP, h] <;> omega
theorem bZ_mono {P Q : Prop} (h : P → Q) : bZ P ≤ bZ Q := by
  by_cases hp : P
  · rw [bZ_t hp, bZ_t (h hp)]; exact Int.le_refl _
  · rw [bZ_f hp]; rcases bZ_or Q with h | h <;> omega
theorem cnt_le {P Q : Nat → Prop} : ∀ N, (∀ k, k < N → P k → Q k) → cntP P N ≤ cntP Q N
  | 0, _ => Nat.le_refl 0
  | (k + 1), h => by
    have h1 := cnt_le k (fun j hj => h j (by omega))
    have h2 := bZ_mono (h k (by omega))
    simp only [cntP]; omega
theorem cnt_lt {P Q : Nat → Prop} {k0 : Nat} (hq : Q k0) (hp : ¬ P k0) : ∀ N, k0 < N → (∀ k, k < N → P k → Q k) → cntP P N < cntP Q N
  | 0, h, _ => by omega
  | (k + 1), hk, h => by
    by_cases he : k = k0
    · subst he
      have h1 := cnt_le k (fun j hj => h j (by omega))
      simp only [cntP, bZ_t hq, bZ_f hp]
      omega
    · have h1 := cnt_lt hq hp k (by omega) (fun j hj => h j (by omega))
      have h2 := bZ_mono (h k (by omega))
      simp only [cntP]; omega
def UC (σ : Nat → Nat → Int) (cnt : Nat) (a b : Int) (k : Nat) : Prop := (k % 36 ≤ cnt ∧ k / 36 + 1 ≤ cnt) ∧ 0 < σ 10 (k % 36) ∧ 0 < σ 10 (k / 36 + 1) ∧ mst σ a b (k / 36 + 1) * σ 10 (k % 36) < lst σ a b (k % 36) * σ 10 (k / 36 + 1)
/-- a pair is clear at a by b: as products -/
theorem cl_iff {σ : Nat → Nat → Int} {a b : Int} {e f : Nat} : lst σ a b e * σ 10 f ≤ mst σ a b f * σ 10 e ↔ (σ 8 e * σ 10 f - σ 8 f * σ 10 e) * b ≤ a * (σ 9 f * σ 10 e + σ 9 e * σ 10 f) := by
  unfold lst mst
  have e1 : (σ 8 e * b - σ 9 e * a) * σ 10 f = σ 8 e * σ 10 f * b - a * (σ 9 e * σ 10 f) := by grind
  have e2 : (σ 8 f * b + σ 9 f * a) * σ 10 e = σ 8 f * σ 10 e * b + a * (σ 9 f * σ 10 e) := by grind
  rw [e1, e2, Int.sub_mul, Int.mul_add]
  omega
theorem frac_up {N C a b n d : Int} (hC : 0 ≤ C) (hb : 0 < b) (hd : 0 < d) (h : N * b ≤ a * C) (ht : a * d ≤ n * b) : N * d ≤ n * C := by
  refine Int.le_of_mul_le_mul_right (a := b) ?_ hb
  have h1 := Int.mul_le_mul_of_nonneg_right h (Int.le_of_lt hd)
  have h2 := Int.mul_le_mul_of_nonneg_right ht hC
  grind
/-- a by b is what the arch must be thinned by, so far -/
def LFI (σ : Nat → Nat → Int) (cnt turn : Nat) (u : Nat → Nat → Int) : Prop := Fr24 σ u ∧ PQ (u 24 0) (u 24 1) ∧ Nat.gcd (u 24 0).natAbs (u 24 1).natAbs = 1 ∧ Str σ cnt (u 24 0) (u 24 1) ∧ (∀ a b : Int, 0 ≤ a → 0 < b → Str σ cnt a b → Bnt σ cnt a b → u 24 0 * b ≤ a * u 24 1) ∧ cntP (UC σ cnt (u 24 0) (u 24 1)) 1260 + turn ≤ 1260
theorem lf_start {σ u : Nat → Nat → Int} {cnt : Nat} (h : SF σ (cnt + 1) u) : LFI σ cnt 0 u := by
  obtain ⟨h1, h2, h3, h4, h5⟩ := h
  refine ⟨h1, ⟨h2.1, by omega, h2.2.2.1, by omega⟩, h3, fun e k1 k2 => h4 e k1 (by omega), fun a b ha hb hs _ => h5 a b ha hb (fun e k1 k2 => hs e k1 (by omega)), ?_⟩
  rw [Nat.add_zero]
  exact cnt_b (UC σ cnt (u 24 0) (u 24 1)) 1260
theorem lf_N {σ τ : Nat → Nat → Int} {cnt lo hi : Nat} (hT : TB σ cnt) (hq : PQ (τ 24 0) (τ 24 1)) (hlo : lo ≤ cnt) (hhi : hi ≤ cnt) (hb : mst σ (τ 24 0) (τ 24 1) hi * σ 10 lo < lst σ (τ 24 0) (τ 24 1) lo * σ 10 hi) : 0 < σ 8 lo * σ 10 hi - σ 8 hi * σ 10 lo ∧ τ 24 0 * (σ 9 hi * σ 10 lo + σ 9 lo * σ 10 hi) < (σ 8 lo * σ 10 hi - σ 8 hi * σ 10 lo) * τ 24 1 ∧ 0 ≤ σ 9 hi * σ 10 lo + σ 9 lo * σ 10 hi := by
  have h1 : ¬ (σ 8 lo * σ 10 hi - σ 8 hi * σ 10 lo) * τ 24 1 ≤ τ 24 0 * (σ 9 hi * σ 10 lo + σ 9 lo * σ 10 hi) := fun h => by have := cl_iff.mpr h; omega
  have a1 := hT.2.2.2.2.2 lo hlo
  have a2 := hT.2.2.2.2.2 hi hhi
  have h2 : 0 ≤ σ 9 hi * σ 10 lo + σ 9 lo * σ 10 hi := Int.add_nonneg (Int.mul_nonneg a2.2.2.1 a1.1.1) (Int.mul_nonneg a1.2.2.1 a2.1.1)
  have h3 := Int.mul_nonneg hq.1 h2
  refine ⟨?_, by omega, h2⟩
  refine Int.not_le.mp (fun h => ?_)
  have := Int.mul_nonneg (show 0 ≤ -(σ 8 lo * σ 10 hi - σ 8 hi * σ 10 lo) by omega) (Int.le_of_lt hq.2.2.1)
  rw [Int.neg_mul] at this
  omega
theorem lf_no {σ τ : Nat → Nat → Int} {cnt lo hi turn : Nat} (hT : TB σ cnt) (hI : LFI σ cnt turn τ) (hlo : lo ≤ cnt) (hlo2 : 0 < σ 10 lo) (hhi : 1 ≤ hi ∧ hi ≤ cnt) (hhi2 : 0 < σ 10 hi) (hb : mst σ (τ 24 0) (τ 24 1) hi * σ 10 lo < lst σ (τ 24 0) (τ 24 1) lo * σ 10 hi) (hC : σ 9 hi * σ 10 lo + σ 9 lo * σ 10 hi = 0) : ∀ a b : Int, 0 ≤ a → 0 < b → ¬ (Str σ cnt a b ∧ Bnt σ cnt a b) := by
  intro a b ha hb5 h
  have h1 := cl_iff.mp (h.2 lo hi hlo hlo2 hhi.1 hhi.2 hhi2)
  rw [hC, Int.mul_zero] at h1
  have h2 := lf_N hT hI.2.1 hlo hhi.2 hb
  have := Int.mul_pos h2.1 hb5
  omega
theorem lf_step {σ τ : Nat → Nat → Int} {cnt lo hi turn : Nat} {N C : Int} (hT : TB σ cnt) (hI : LFI σ cnt turn τ) (hlo : lo ≤ cnt) (hlo2 : 0 < σ 10 lo) (hhi : 1 ≤ hi ∧ hi ≤ cnt) (hhi2 : 0 < σ 10 hi) (hb : mst σ (τ 24 0) (τ 24 1) hi * σ 10 lo < lst σ (τ 24 0) (τ 24 1) lo * σ 10 hi) (eC : C = σ 9 hi * σ 10 lo + σ 9 lo * σ 10 hi) (eN : N = σ 8 lo * σ 10 hi - σ 8 hi * σ 10 lo) (hC : C ≠ 0) (hNb : N ≤ 2560000000) (hCb : C ≤ 2560000000) : LFI σ cnt (turn + 1) (redP τ 24 N C) := by
  obtain ⟨h1, h2, h3, h4, h5, h6⟩ := hI
  obtain ⟨n1, n2, n3⟩ := lf_N hT h2 hlo hhi.2 hb
  rw [← eC] at n2 n3
  rw [← eN] at n1 n2
  obtain ⟨G, g1, g2, g3, g4, g5⟩ := red_f (A := N) (B := C) (by omega)
  have n0 : 0 < N.tdiv (gcZ N C) := by
    refine Int.not_le.mp (fun h => ?_)
    have := Int.mul_nonneg (show 0 ≤ -(N.tdiv (gcZ N C)) by omega) (Int.le_of_lt g1)
    rw [Int.neg_mul] at this
    omega
  have bn : N.tdiv (gcZ N C) ≤ N := by
    have := Int.mul_le_mul_of_nonneg_left (show 1 ≤ G by omega) (Int.le_of_lt n0)
    omega
  have bd : C.tdiv (gcZ N C) ≤ C := by
    have := Int.mul_le_mul_of_nonneg_left (show 1 ≤ G by omega) (Int.le_of_lt g4)
    omega
  have e0 : redP τ 24 N C 24 0 = N.tdiv (gcZ N C) := redP_0
  have e1 : redP τ 24 N C 24 1 = C.tdiv (gcZ N C) := redP_1
  rw [← e0] at g2 g5 n0 bn
  rw [← e1] at g3 g4 g5 bd
  have hfr : Fr24 σ (redP τ 24 N C) := fun c hc => by rw [redP_c hc]; exact h1 c hc
  generalize redP τ 24 N C = u at *
  -- the new one lies above
  have up1 : τ 24 0 * u 24 1 ≤ u 24 0 * τ 24 1 := by
    refine Int.le_of_mul_le_mul_right (a := G) ?_ g1
    have q1 : τ 24 0 * u 24 1 * G = τ 24 0 * C := by rw [Int.mul_assoc, g3]
    have q2 : u 24 0 * τ 24 1 * G = N * τ 24 1 := by rw [Int.mul_right_comm, g2]
    omega
  have hd := h2.2.2.1
  refine ⟨hfr, ⟨by omega, by omega, g4, by omega⟩, g5, fun e k1 k2 k3 => ?_, fun a b ha hb5 hs hn => ?_, ?_⟩
  · have := frac_up (N := absZ (σ 8 e)) (C := σ 9 e) (hT.2.2.2.2.2 e k2).2.2.1 hd g4 (by rw [Int.mul_comm (τ 24 0)]; exact h4 e k1 k2 k3) up1
    rw [Int.mul_comm (σ 9 e)]; exact this
  · have q1 := cl_iff.mp (hn lo hi hlo hlo2 hhi.1 hhi.2 hhi2)
    rw [← eN, ← eC] at q1
    refine Int.le_of_mul_le_mul_right (a := G) ?_ g1
    have q2 : u 24 0 * b * G = N * b := by rw [Int.mul_right_comm, g2]
    have q3 : a * u 24 1 * G = a * C := by rw [Int.mul_assoc, g3]
    omega
  · have hk : cntP (UC σ cnt (u 24 0) (u 24 1)) 1260 < cntP (UC σ cnt (τ 24 0) (τ 24 1)) 1260 := by
      have hc35 := hT.1
      have k1 : (36 * (hi - 1) + lo) % 36 = lo := by omega
      have k2 : (36 * (hi - 1) + lo) / 36 + 1 = hi := by omega
      refine cnt_lt (k0 := 36 * (hi - 1) + lo) ?_ ?_ 1260 (by omega) (fun k hk h => ?_)
      · unfold UC; rw [k1, k2]; exact ⟨⟨hlo, hhi.2⟩, hlo2, hhi2, hb⟩
      · unfold UC; rw [k1, k2]
        intro h
        have q1 : lst σ (u 24 0) (u 24 1) lo * σ 10 hi ≤ mst σ (u 24 0) (u 24 1) hi * σ 10 lo := by
          rw [cl_iff, ← eN, ← eC, ← g2, ← g3]
          have : u 24 0 * G * u 24 1 = u 24 0 * (u 24 1 * G) := by grind
          omega
        omega
      · refine ⟨h.1, h.2.1, h.2.2.1, Int.not_le.mp (fun q => ?_)⟩
        have q1 := cl_iff.mp q
        have b1 := hT.2.2.2.2.2 (k % 36) h.1.1
        have b2 := hT.2.2.2.2.2 (k / 36 + 1) h.1.2
        have q2 := frac_up (Int.add_nonneg (Int.mul_nonneg b2.2.2.1 b1.1.1) (Int.mul_nonneg b1.2.2.1 b2.1.1)) hd g4 q1 up1
        have q3 := cl_iff.mpr q2
        have := h.2.2.2
        omega
    omega
theorem TB.fr {σ u : Nat → Nat → Int} {cnt : Nat} (h : TB σ cnt) (hf : Fr24 σ u) : TB u cnt := by
  unfold TB
  rw [hf 7 (by decide), hf 8 (by decide), hf 9 (by decide), hf 10 (by decide)]
  exact h
theorem TL.fr {σ u : Nat → Nat → Int} {cnt k : Nat} {a b : Int} (hf : Fr24 σ u) (h : TL u cnt a b k) : TL σ cnt a b k := by
  unfold TL lst at h ⊢
  rw [hf 8 (by decide), hf 9 (by decide), hf 10 (by decide)] at h
  exact h
theorem TM.fr {σ u : Nat → Nat → Int} {cnt k : Nat} {a b : Int} (hf : Fr24 σ u) (h : TM u cnt a b k) : TM σ cnt a b k := by
  unfold TM mst at h ⊢
  rw [hf 8 (by decide), hf 9 (by decide), hf 10 (by decide)] at h
  exact h
def LF (σ : Nat → Nat → Int) (cnt : Nat) (u : Nat → Nat → Int) : Prop := PQ (u 24 0) (u 24 1) ∧ Nat.gcd (u 24 0).natAbs (u 24 1).natAbs = 1 ∧ (Str σ cnt (u 24 0) (u 24 1) ∧ Bnt σ cnt (u 24 0) (u 24 1)) ∧ ∀ a b : Int, 0 ≤ a → 0 < b → Str σ cnt a b → Bnt σ cnt a b → u 24 0 * b ≤ a * u 24 1
set_option maxHeartbeats 4000000 in
set_option maxRecDepth 20000 in
theorem lp_X5_leastFactor {g : Gx} {K : Kx} {q : Nat → Nat} {σ : Nat → Nat → Int} {cnt : Nat} (hT : TB σ cnt) (C : CX g K cX5_leastFactor RX5 7 3 76) (T : RT g K (some .boolean) (fun u => WC g q u) (pI (fun z u => Fr24 σ u ∧ ((z = 1 ∧ LF σ cnt u) ∨ (z = 0 ∧ ∀ a b : Int, 0 ≤ a → 0 < b → ¬ (Str σ cnt a b ∧ Bnt σ cnt a b)))))) : ∀ (d e : Nat), e ≤ 1261 → 1261 < e + d → ∀ τ : Nat → Nat → Int, LFI σ cnt e τ → GJ g K (WC g q τ) 12 [(0, .ref (q 7)), (1, .ref (q 24)), (2, .int (iZ (e : Int)))] [] := by
  intro d
  induction d with
  | zero => intro e k1 k2; omega
  | succ d ih =>
    intro e k1 k2 τ hI
    have hc35 := hT.1
    have hq := hI.2.1
    refine g_iload_n 2 C rfl dX5_leastFactor_12 rfl ?_
    refine g_sipush C dX5_leastFactor_13 (by decide) ?_
    refine g_icmp_gt 147 C (by unfold I32; omega) (by unfold I32; omega) dX5_leastFactor_16 (by decide) (fun h1 => ?_) (fun h1 => ?_)
    · refine g_iconst C dX5_leastFactor_147 ?_
      refine g_zret (u := τ) C T dX5_leastFactor_148 (by omega) ?_
      exfalso
      have := hI.2.2.2.2.2
      omega
    · refine g_aload_n 0 C rfl dX5_leastFactor_19 rfl ?_
      refine g_aload_n 1 C rfl dX5_leastFactor_20 rfl ?_
      refine gf_X5_79 (Or.inl rfl) C dX5_leastFactor_21 ?_
      refine g_aload_n 1 C rfl dX5_leastFactor_24 rfl ?_
      refine gf_X5_83 (Or.inl rfl) C dX5_leastFactor_25 ?_
      refine g_callI C (c_X5_tightestLeast g (σ := τ) (cnt := cnt) (hT.fr hI.1) (oa := τ 24 0) (ob := τ 24 1) hI.2.1) gv_X5_56 yd_X5_tightestLeast ⟨by decide, by decide⟩ 7 5 (WD_get (by decide)) rfl rfl (Nat.le_of_ble_eq_true rfl) dX5_leastFactor_28 ?_
      rintro _ _ ⟨lo, rfl, h0lo⟩
      have hlo := TL.fr hI.1 h0lo
      refine g_istore_n (lv' := [(0, .ref (q 7)), (1, .ref (q 24)), (2, .int (iZ (e : Int))), (3, .int (iZ (lo : Int)))]) [1, 2, 3, 0] C dX5_leastFactor_31 rfl (by decide) rfl ?_
      refine g_aload_n 0 C rfl dX5_leastFactor_32 rfl ?_
      refine g_aload_n 1 C rfl dX5_leastFactor_33 rfl ?_
      refine gf_X5_79 (Or.inl rfl) C dX5_leastFactor_34 ?_
      refine g_aload_n 1 C rfl dX5_leastFactor_37 rfl ?_
      refine gf_X5_83 (Or.inl rfl) C dX5_leastFactor_38 ?_
      refine g_callI C (c_X5_tightestMost g (σ := τ) (cnt := cnt) (hT.fr hI.1) (oa := τ 24 0) (ob := τ 24 1) hI.2.1) gv_X5_60 yd_X5_tightestMost ⟨by decide, by decide⟩ 7 5 (WD_get (by decide)) rfl rfl (Nat.le_of_ble_eq_true rfl) dX5_leastFactor_41 ?_
      rintro _ _ ⟨hi, rfl, h0hi⟩
      have hhi := TM.fr hI.1 h0hi
      refine g_istore (lv' := [(0, .ref (q 7)), (1, .ref (q 24)), (2, .int (iZ (e : Int))), (3, .int (iZ (lo : Int))), (4, .int (iZ (hi : Int)))]) [1, 2, 3, 4, 0] C dX5_leastFactor_44 (by decide) rfl ?_
      refine g_aload_n 0 C rfl dX5_leastFactor_46 rfl ?_
      refine g_iload_n 3 C rfl dX5_leastFactor_47 rfl ?_
      refine g_iload 4 C rfl dX5_leastFactor_48 ?_
      refine g_aload_n 1 C rfl dX5_leastFactor_50 rfl ?_
      refine gf_X5_79 (Or.inl rfl) C dX5_leastFactor_51 ?_
      refine g_aload_n 1 C rfl dX5_leastFactor_54 rfl ?_
      refine gf_X5_83 (Or.inl rfl) C dX5_leastFactor_55 ?_
      have hBhi : hi ≤ cnt := by rcases hhi with h | h <;> omega
      refine g_callI C (c_X5_bars g (σ := τ) (cnt := cnt) (hT.fr hI.1) (oa := τ 24 0) (ob := τ 24 1) hI.2.1 (lo := lo) (hi := hi) hlo.1 hBhi) gv_X5_63 yd_X5_bars ⟨by decide, by decide⟩ 7 5 (WD_get (by decide)) rfl rfl (Nat.le_of_ble_eq_true rfl) dX5_leastFactor_58 ?_
      rintro _ _ rfl
      rw [show (mst τ (τ 24 0) (τ 24 1) hi * τ 10 lo < lst τ (τ 24 0) (τ 24 1) lo * τ 10 hi) = (mst σ (τ 24 0) (τ 24 1) hi * σ 10 lo < lst σ (τ 24 0) (τ 24 1) lo * σ 10 hi) by unfold mst lst; rw [hI.1 8 (by decide), hI.1 9 (by decide), hI.1 10 (by decide)]]
      have hbn := bnt_iff hlo hhi
      refine g_bne 66 C dX5_leastFactor_61 (by decide) (fun h2 => ?_) (fun h2 => ?_)
      · have hbr : (hi : Int) ≠ 0 ∧ mst σ (τ 24 0) (τ 24 1) hi * σ 10 lo < lst σ (τ 24 0) (τ 24 1) lo * σ 10 hi := h2
        have hh2 : 1 ≤ hi ∧ hi ≤ cnt ∧ 0 < σ 10 hi := by rcases hhi with h | h <;> omega
        have a1 := hT.2.2.2.2.2 lo hlo.1
        have a2 := hT.2.2.2.2.2 hi hBhi
        have b1 := Bd.sub (Bd.mul a1.2.1 (show Bd (σ 10 hi) 800000 from ⟨by omega, a2.1.2⟩)) (Bd.mul a2.2.1 (show Bd (σ 10 lo) 800000 from ⟨by omega, a1.1.2⟩))
        have b2 := Bd.add (Bd.mul (show Bd (σ 9 hi) 1600 from ⟨by omega, a2.2.2.2⟩) (show Bd (σ 10 lo) 800000 from ⟨by omega, a1.1.2⟩)) (Bd.mul (show Bd (σ 9 lo) 1600 from ⟨by omega, a1.2.2.2⟩) (show Bd (σ 10 hi) 800000 from ⟨by omega, a2.1.2⟩))
        have b3 := lf_N hT hI.2.1 hlo.1 hBhi hbr.2
        have hlc := hlo.1
        obtain ⟨b4, b5⟩ := b1
        obtain ⟨b6, b7⟩ := b2
        refine g_aload_n 0 C rfl dX5_leastFactor_66 rfl ?_
        refine gf_X5_13 C dX5_leastFactor_67 ?_
        refine g_iload 4 C rfl dX5_leastFactor_70 ?_
        refine g_lald C 9 hi (by decide) (fun _ => rfl) (by omega) (by omega) (by decide) dX5_leastFactor_72 ?_
        rw [show τ 9 hi = σ 9 hi from congrFun (hI.1 9 (by decide)) _]
        refine g_aload_n 0 C rfl dX5_leastFactor_73 rfl ?_
        refine gf_X5_16 C dX5_leastFactor_74 ?_
        refine g_iload_n 3 C rfl dX5_leastFactor_77 rfl ?_
        refine g_lald C 10 lo (by decide) (fun _ => rfl) (by omega) (by omega) (by decide) dX5_leastFactor_78 ?_
        rw [show τ 10 lo = σ 10 lo from congrFun (hI.1 10 (by decide)) _]
        refine g_lmul C dX5_leastFactor_79 ?_
        refine g_aload_n 0 C rfl dX5_leastFactor_80 rfl ?_
        refine gf_X5_13 C dX5_leastFactor_81 ?_
        refine g_iload_n 3 C rfl dX5_leastFactor_84 rfl ?_
        refine g_lald C 9 lo (by decide) (fun _ => rfl) (by omega) (by omega) (by decide) dX5_leastFactor_85 ?_
        rw [show τ 9 lo = σ 9 lo from congrFun (hI.1 9 (by decide)) _]
        refine g_aload_n 0 C rfl dX5_leastFactor_86 rfl ?_
        refine gf_X5_16 C dX5_leastFactor_87 ?_
        refine g_iload 4 C rfl dX5_leastFactor_90 ?_
        refine g_lald C 10 hi (by decide) (fun _ => rfl) (by omega) (by omega) (by decide) dX5_leastFactor_92 ?_
        rw [show τ 10 hi = σ 10 hi from congrFun (hI.1 10 (by decide)) _]
        refine g_lmul C dX5_leastFactor_93 ?_
        refine g_ladd C dX5_leastFactor_94 ?_
        refine g_lname (fun w3 ew3 => ?_)
        refine g_lstore (lv' := [(0, .ref (q 7)), (1, .ref (q 24)), (2, .int (iZ (e : Int))), (3, .int (iZ (lo : Int))), (4, .int (iZ (hi : Int))), (5, .long (lZ w3))]) [1, 2, 3, 4, 5, 0] C dX5_leastFactor_95 (by decide) rfl ?_
        have eC : w3 = σ 9 hi * σ 10 lo + σ 9 lo * σ 10 hi := ew3
        refine g_lload 5 C rfl dX5_leastFactor_97 ?_
        refine g_lconst 0 C dX5_leastFactor_99 (by decide) ?_
        refine g_lcmp_ne 106 C (by unfold I64; omega) (by unfold I64; omega) dX5_leastFactor_100 dX5_leastFactor_101 (by decide) (fun h4 => ?_) (fun h4 => ?_)
        · have hcn := h4
          refine g_aload_n 1 C rfl dX5_leastFactor_106 rfl ?_
          refine g_aload_n 0 C rfl dX5_leastFactor_107 rfl ?_
          refine gf_X5_9 C dX5_leastFactor_108 ?_
          refine g_iload_n 3 C rfl dX5_leastFactor_111 rfl ?_
          refine g_lald C 8 lo (by decide) (fun _ => rfl) (by omega) (by omega) (by decide) dX5_leastFactor_112 ?_
          rw [show τ 8 lo = σ 8 lo from congrFun (hI.1 8 (by decide)) _]
          refine g_aload_n 0 C rfl dX5_leastFactor_113 rfl ?_
          refine gf_X5_16 C dX5_leastFactor_114 ?_
          refine g_iload 4 C rfl dX5_leastFactor_117 ?_
          refine g_lald C 10 hi (by decide) (fun _ => rfl) (by omega) (by omega) (by decide) dX5_leastFactor_119 ?_
          rw [show τ 10 hi = σ 10 hi from congrFun (hI.1 10 (by decide)) _]
          refine g_lmul C dX5_leastFactor_120 ?_
          refine g_aload_n 0 C rfl dX5_leastFactor_121 rfl ?_
          refine gf_X5_9 C dX5_leastFactor_122 ?_
          refine g_iload 4 C rfl dX5_leastFactor_125 ?_
          refine g_lald C 8 hi (by decide) (fun _ => rfl) (by omega) (by omega) (by decide) dX5_leastFactor_127 ?_
          rw [show τ 8 hi = σ 8 hi from congrFun (hI.1 8 (by decide)) _]
          refine g_aload_n 0 C rfl dX5_leastFactor_128 rfl ?_
          refine gf_X5_16 C dX5_leastFactor_129 ?_
          refine g_iload_n 3 C rfl dX5_leastFactor_132 rfl ?_
          refine g_lald C 10 lo (by decide) (fun _ => rfl) (by omega) (by omega) (by decide) dX5_leastFactor_133 ?_
          rw [show τ 10 lo = σ 10 lo from congrFun (hI.1 10 (by decide)) _]
          refine g_lmul C dX5_leastFactor_134 ?_
          refine g_lsub C dX5_leastFactor_135 ?_
          refine g_lload 5 C rfl dX5_leastFactor_136 ?_
          refine g_callV C (c_X2_become g (σ := τ) (c := 24) (Or.inl rfl) (A := ((σ 8 lo) * (σ 10 hi)) - ((σ 8 hi) * (σ 10 lo))) (B := w3) ⟨by omega, by omega⟩ (by omega) (by omega)) gv_X5_69 yd_X2_become ⟨by decide, by decide⟩ 24 2 (WD_get (by decide)) rfl rfl (Nat.le_of_ble_eq_true rfl) dX5_leastFactor_138 ?_
          rintro _ rfl
          refine g_iinc (lv' := [(0, .ref (q 7)), (1, .ref (q 24)), (2, .int (iZ ((e : Int) + 1))), (3, .int (iZ (lo : Int))), (4, .int (iZ (hi : Int))), (5, .long (lZ w3))]) 2 [1, 2, 0, 3, 4, 5] C rfl dX5_leastFactor_141 (by decide) rfl ?_
          refine g_goto 12 C dX5_leastFactor_144 (by decide) ?_
          refine g_lv [0, 1, 2] rfl ?_
          exact ih (e + 1) (by omega) (by omega) _ (lf_step hT hI hlo.1 hlo.2.1 (by omega) (by omega) hbr.2 eC rfl hcn (by omega) (by omega))
        · refine g_iconst C dX5_leastFactor_104 ?_
          refine g_zret (u := τ) C T dX5_leastFactor_105 (by omega) ?_
          exact ⟨_, rfl, hI.1, Or.inr ⟨rfl, lf_no hT hI hlo.1 hlo.2.1 (by omega) (by omega) hbr.2 (by omega)⟩⟩
      · refine g_iconst C dX5_leastFactor_64 ?_
        refine g_zret (u := τ) C T dX5_leastFactor_65 (by omega) ?_
        exact ⟨_, rfl, hI.1, Or.inl ⟨rfl, hI.2.1, hI.2.2.1, ⟨hI.2.2.2.1, hbn.mpr h2⟩, hI.2.2.2.2.1⟩⟩
set_option maxHeartbeats 4000000 in
set_option maxRecDepth 20000 in
theorem c_X5_leastFactor (g : Gx) {q : Nat → Nat} {σ : Nat → Nat → Int} {cnt : Nat} (hT : TB σ cnt) : MC g yX5_leastFactor cX5_leastFactor 7 ((some .boolean)) 3 76 (WC g q σ) [.ref (q 7), .ref (q 24)] (fun u => WC g q u) (pI (fun z u => Fr24 σ u ∧ ((z = 1 ∧ LF σ cnt u) ∨ (z = 0 ∧ ∀ a b : Int, 0 ≤ a → 0 < b → ¬ (Str σ cnt a b ∧ Bnt σ cnt a b))))) := by
  refine MC_intro (own := RX5) rfl (by decide) (Nat.le_of_ble_eq_true rfl) (fun K C T => ?_)
  show GJ g K (WC g q σ) 0 [(0, .ref (q 7)), (1, .ref (q 24))] []
  refine g_aload_n 0 C rfl dX5_leastFactor_0 rfl ?_
  refine g_aload_n 1 C rfl dX5_leastFactor_1 rfl ?_
  refine g_callI C (c_X5_straightFactor g (σ := σ) hT) gv_X5_75 yd_X5_straightFactor ⟨by decide, by decide⟩ 7 5 (WD_get (by decide)) rfl rfl (Nat.le_of_ble_eq_true rfl) dX5_leastFactor_2 ?_
  intro z u hz
  refine g_if_ne 10 C (by rcases hz with h | h <;> unfold I32 <;> omega) dX5_leastFactor_5 (by decide) (fun h1 => ?_) (fun h1 => ?_)
  · refine g_iconst C dX5_leastFactor_10 ?_
    refine g_istore_n (lv' := [(0, .ref (q 7)), (1, .ref (q 24)), (2, .int (iZ 0))]) [1, 2, 0] C dX5_leastFactor_11 rfl (by decide) rfl ?_
    have hs : SF σ (cnt + 1) u := by rcases hz with h | h; exact h.2; omega
    exact lp_X5_leastFactor hT C T 1262 0 (by omega) (by omega) u (lf_start hs)
  · refine g_iconst C dX5_leastFactor_8 ?_
    refine g_zret (u := u) C T dX5_leastFactor_9 (by omega) ?_
    rcases hz with hz | hz
    · omega
    · exact ⟨_, rfl, hz.2.1, Or.inr ⟨rfl, fun a b ha hb h => hz.2.2 a b hb h.1⟩⟩
