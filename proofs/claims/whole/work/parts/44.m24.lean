/-- what gather leaves: the moments, and an entry for each triple -/
def GA (σ : Nat → Nat → Int) (lc nn : Nat) (u : Nat → Nat → Int) : Prop := ((∀ c, c ≠ 6 → c ≠ 7 → c ≠ 8 → c ≠ 9 → c ≠ 10 → u c = σ c) ∧ (∀ j, j ≠ 1 → u 7 j = σ 7 j) ∧ u 8 0 = σ 8 0 ∧ u 9 0 = σ 9 0 ∧ u 10 0 = σ 10 0) ∧ (∀ j, j ≤ nn → u 6 j = mosum (σ 2) (σ lc) (σ 2 nn) j nn) ∧ ∃ cn : Nat, cn ≤ 35 ∧ u 7 1 = (cn : Int) ∧ (∀ e, 1 ≤ e → e ≤ cn → ∃ i j r, (i < j ∧ j < r ∧ r ≤ nn) ∧ ent (σ 2) (σ 3) (σ 4) (u 6) u e i j r) ∧ ∀ i j r, (i < j ∧ j < r ∧ r ≤ nn) → ∃ e, 1 ≤ e ∧ e ≤ cn ∧ ent (σ 2) (σ 3) (σ 4) (u 6) u e i j r
theorem ga_end {σ τ τ0 : Nat → Nat → Int} {lc nn : Nat} (hn2 : 2 ≤ nn) (hn6 : nn ≤ 6) (hw : WG σ lc nn τ0) (h : GT nn (SeenG nn (nn - 1) nn (nn + 1)) (up τ0 7 1 0) (rk nn (nn - 1) nn (nn + 1)) τ) : GA σ lc nn τ := by
  have u2 : (up τ0 7 1 0) 2 = σ 2 := by rw [up_c (by decide)]; exact hw.1 2 (by decide)
  have u3 : (up τ0 7 1 0) 3 = σ 3 := by rw [up_c (by decide)]; exact hw.1 3 (by decide)
  have u4 : (up τ0 7 1 0) 4 = σ 4 := by rw [up_c (by decide)]; exact hw.1 4 (by decide)
  have u6 : τ 6 = (up τ0 7 1 0) 6 := h.1.1 6 (by decide) (by decide) (by decide) (by decide)
  obtain ⟨⟨h1, h2, h3, h4, h5⟩, h6, h7, h8⟩ := h
  rw [u2, u3, u4, ← u6] at h7 h8
  refine ⟨⟨fun c c6 c7 c8 c9 c10 => by rw [h1 c c7 c8 c9 c10, up_c c7]; exact hw.1 c c6, fun j hj => by rw [h2 j hj, up_k hj]; exact congrFun (hw.1 7 (by decide)) j, by rw [h3, up_c (by decide)]; exact congrFun (hw.1 8 (by decide)) 0, by rw [h4, up_c (by decide)]; exact congrFun (hw.1 9 (by decide)) 0, by rw [h5, up_c (by decide)]; exact congrFun (hw.1 10 (by decide)) 0⟩, fun j hj => by rw [u6, up_c (by decide)]; exact hw.2 j hj, rk nn (nn - 1) nn (nn + 1), ?_, h6, fun e e1 e2 => ?_, fun i j r hs => ?_⟩
  · have h9 := rk_6 nn (by omega) (nn - 1) (by omega) (by omega) hn2 (by omega)
    rw [show nn - 1 + 1 = nn by omega, show nn - 1 + 2 = nn + 1 by omega] at h9
    exact h9
  · obtain ⟨i, j, r, hs, he⟩ := h7 e e1 e2
    exact ⟨i, j, r, ⟨hs.1, hs.2.1, hs.2.2.1⟩, he⟩
  · exact h8 i j r ⟨hs.1, hs.2.1, hs.2.2, by omega⟩
set_option maxHeartbeats 4000000 in
set_option maxRecDepth 20000 in
theorem c_X5_gather (g : Gx) {q : Nat → Nat} {σ : Nat → Nat → Int} {nn : Nat} (hn : σ 1 0 = (nn : Int)) (hn2 : 2 ≤ nn) (hn6 : nn ≤ 6) {lc : Nat} (hlc : lc = 5 ∨ lc = 23) (hx : ∀ i, i ≤ nn → 0 ≤ σ 2 i ∧ σ 2 i ≤ 20) (hl : ∀ i, i ≤ nn → -20 ≤ σ 3 i ∧ σ 3 i ≤ σ 4 i ∧ σ 4 i ≤ 20) (hmo : ∀ i, i ≤ nn → Bd (mosum (σ 2) (σ lc) (σ 2 nn) i nn) 40000) : MC g yX5_gather cX5_gather 9 (none) 2 50 (WC g q σ) [.ref (q 7), .ref (q lc)] (fun u => WC g q u) (pV (fun u => GA σ lc nn u)) := by
  refine MC_intro (own := RX5) rfl (by decide) (Nat.le_of_ble_eq_true rfl) (fun K C T => ?_)
  show GJ g K (WC g q σ) 0 [(0, .ref (q 7)), (1, .ref (q lc))] []
  refine g_aload_n 0 C rfl dX5_gather_0 rfl ?_
  refine gf_X5_19 C dX5_gather_1 ?_
  refine g_aload_n 1 C rfl dX5_gather_4 rfl ?_
  refine g_callV C (c_X0_weigh g (σ := σ) hn hn2 hn6 hlc) gv_X5_23 yd_X0_weigh ⟨by decide, by decide⟩ 1 0 (WD_get (by decide)) rfl rfl (Nat.le_of_ble_eq_true rfl) dX5_gather_5 ?_
  intro τ0 hw
  refine g_aload_n 0 C rfl dX5_gather_8 rfl ?_
  refine g_iconst C dX5_gather_9 ?_
  refine pf_X5_29 C dX5_gather_10 ?_
  refine g_iconst C dX5_gather_13 ?_
  refine g_istore_n (lv' := [(0, .ref (q 7)), (1, .ref (q lc)), (2, .int (iZ 0))]) [1, 2, 0] C dX5_gather_14 rfl (by decide) rfl ?_
  refine ga1 (σ := up τ0 7 1 0) (nn := nn) (by rw [up_c (by decide), hw.1 1 (by decide)]; exact hn) hn2 hn6 (by rw [up_c (by decide), hw.1 2 (by decide)]; exact hx) (by rw [up_c (by decide), hw.1 3 (by decide), up_c (by decide), hw.1 4 (by decide)]; exact hl) (fun i hi => by rw [up_c (by decide), hw.2 i hi]; exact hmo i hi) C (fun τ hG => ?_) nn 0 (by omega) (by omega) 0 (up τ0 7 1 0) (rk_1 nn (by omega) hn2).symm ⟨⟨fun _ _ _ _ _ => rfl, fun _ _ => rfl, rfl, rfl, rfl⟩, rfl, fun e h1 h2 => by omega, fun i j r hs => by unfold SeenG at hs; omega⟩
  refine g_vret (u := τ) C T dX5_gather_199 ?_
  exact ⟨rfl, ga_end hn2 hn6 hw hG⟩
theorem red_f {A B : Int} (hB : 0 < B) : ∃ G : Int, 0 < G ∧ A.tdiv (gcZ A B) * G = A ∧ B.tdiv (gcZ A B) * G = B ∧ 0 < B.tdiv (gcZ A B) ∧ Nat.gcd (A.tdiv (gcZ A B)).natAbs (B.tdiv (gcZ A B)).natAbs = 1 := by
  refine ⟨gcZ A B, (gcZ_pos hB).1, gcZ_div.1, gcZ_div.2, ?_, gcZ_red hB⟩
  have h1 := gcZ_div (a := A) (b := B)
  have h2 := (gcZ_pos (a := A) hB).1
  refine Int.not_le.mp (fun h => ?_)
  have := Int.mul_nonneg (show 0 ≤ -(B.tdiv (gcZ A B)) by omega) (Int.le_of_lt h2)
  rw [Int.neg_mul] at this
  omega
def Fr24 (σ u : Nat → Nat → Int) : Prop := ∀ c, c ≠ 24 → u c = σ c
theorem redP_c {σ : Nat → Nat → Int} {c c' : Nat} {A B : Int} (h : c' ≠ c) : redP σ c A B c' = σ c' := by unfold redP; rw [up_c h, up_c h]
theorem redP_0 {σ : Nat → Nat → Int} {c : Nat} {A B : Int} : redP σ c A B c 0 = A.tdiv (gcZ A B) := by unfold redP; rw [up_k (by decide), up_s]
theorem redP_1 {σ : Nat → Nat → Int} {c : Nat} {A B : Int} : redP σ c A B c 1 = B.tdiv (gcZ A B) := by unfold redP; rw [up_s]
/-- the least that straight triples below e need -/
def SF (σ : Nat → Nat → Int) (e : Nat) (u : Nat → Nat → Int) : Prop := Fr24 σ u ∧ (0 ≤ u 24 0 ∧ u 24 0 ≤ 1600 ∧ 0 < u 24 1 ∧ u 24 1 ≤ 1600) ∧ Nat.gcd (u 24 0).natAbs (u 24 1).natAbs = 1 ∧ (∀ e', 1 ≤ e' → e' < e → σ 10 e' = 0 → absZ (σ 8 e') * u 24 1 ≤ σ 9 e' * u 24 0) ∧ ∀ a b : Int, 0 ≤ a → 0 < b → (∀ e', 1 ≤ e' → e' < e → σ 10 e' = 0 → absZ (σ 8 e') * b ≤ σ 9 e' * a) → u 24 0 * b ≤ a * u 24 1
theorem sf_keep {σ τ : Nat → Nat → Int} {e : Nat} (h : SF σ e τ) (hc : σ 10 e = 0 → absZ (σ 8 e) * τ 24 1 ≤ σ 9 e * τ 24 0) : SF σ (e + 1) τ := by
  obtain ⟨h1, h2, h3, h4, h5⟩ := h
  refine ⟨h1, h2, h3, fun e' k1 k2 k3 => ?_, fun a b ha hb k => h5 a b ha hb (fun e' k1 k2 k3 => k e' k1 (by omega) k3)⟩
  by_cases he : e' = e
  · subst he; exact hc k3
  · exact h4 e' k1 (by omega) k3
theorem mul_sub_le {p q r s c : Int} (hc : 0 < c) (h : p * c ≤ q * c) : p ≤ q := Int.le_of_mul_le_mul_right h hc
theorem sf_new {σ τ : Nat → Nat → Int} {e : Nat} {A B : Int} (h : SF σ e τ) (h10 : σ 10 e = 0) (hA : A = absZ (σ 8 e)) (hA1 : 0 < A ∧ A ≤ 1600) (hB : B = σ 9 e) (hB1 : 0 < B ∧ B ≤ 1600) (hr : ∀ e', 1 ≤ e' → e' < e → 0 ≤ σ 9 e') (he1 : 1 ≤ e) (hgt : σ 9 e * τ 24 0 < A * τ 24 1) : SF σ (e + 1) (redP τ 24 A B) := by
  obtain ⟨h1, h2, h3, h4, h5⟩ := h
  obtain ⟨G, g1, g2, g3, g4, g5⟩ := red_f (A := A) hB1.1
  have n0 : 0 < A.tdiv (gcZ A B) := by
    refine Int.not_le.mp (fun h => ?_)
    have := Int.mul_nonneg (show 0 ≤ -(A.tdiv (gcZ A B)) by omega) (Int.le_of_lt g1)
    rw [Int.neg_mul] at this
    omega
  have bn : A.tdiv (gcZ A B) ≤ A := by
    have := Int.mul_le_mul_of_nonneg_left (show 1 ≤ G by omega) (Int.le_of_lt n0)
    omega
  have bd : B.tdiv (gcZ A B) ≤ B := by
    have := Int.mul_le_mul_of_nonneg_left (show 1 ≤ G by omega) (Int.le_of_lt g4)
    omega
  refine ⟨fun c hc => by rw [redP_c hc]; exact h1 c hc, ?_, ?_, fun e' k1 k2 k3 => ?_, fun a b ha hb k => ?_⟩
  · rw [redP_0, redP_1]; omega
  · rw [redP_0, redP_1]; exact g5
  · rw [redP_0, redP_1]
    generalize A.tdiv (gcZ A B) = n at *
    generalize B.tdiv (gcZ A B) = d at *
    by_cases he : e' = e
    · subst he
      refine Int.le_of_mul_le_mul_right (a := G) ?_ g1
      rw [Int.mul_assoc, Int.mul_assoc, g2, g3, ← hA, ← hB, Int.mul_comm]
      exact Int.le_refl _
    · have q1 := h4 e' k1 (by omega) k3
      have q2 := hr e' k1 (by omega)
      -- t rises
      have q3 : τ 24 0 * d ≤ n * τ 24 1 := by
        refine Int.le_of_mul_le_mul_right (a := G) ?_ g1
        have e1 : τ 24 0 * d * G = σ 9 e * τ 24 0 := by rw [Int.mul_assoc, g3, hB, Int.mul_comm]
        have e2 : n * τ 24 1 * G = A * τ 24 1 := by rw [← g2]; grind
        omega
      refine Int.le_of_mul_le_mul_right (a := τ 24 1) ?_ h2.2.2.1
      have q4 := Int.mul_le_mul_of_nonneg_left q3 q2
      have q5 := Int.mul_le_mul_of_nonneg_right q1 (Int.le_of_lt g4)
      grind
  · rw [redP_0, redP_1]
    have q1 := k e he1 (by omega) h10
    rw [← hA, ← hB] at q1
    refine Int.le_of_mul_le_mul_right (a := G) ?_ g1
    have e1 : A.tdiv (gcZ A B) * b * G = A * b := by rw [Int.mul_right_comm, g2]
    have e2 : a * B.tdiv (gcZ A B) * G = B * a := by rw [Int.mul_assoc, g3, Int.mul_comm]
    omega
set_option maxHeartbeats 4000000 in
set_option maxRecDepth 20000 in
theorem lp_X5_straightFactor {g : Gx} {K : Kx} {q : Nat → Nat} {σ : Nat → Nat → Int} {cnt : Nat} (hT : TB σ cnt) (C : CX g K cX5_straightFactor RX5 5 2 52) (T : RT g K (some .boolean) (fun u => WC g q u) (pI (fun z u => (z = 1 ∧ SF σ (cnt + 1) u) ∨ (z = 0 ∧ Fr24 σ u ∧ ∀ a b : Int, 0 < b → ¬ Str σ cnt a b)))) : ∀ (d e : Nat), 1 ≤ e → e ≤ cnt + 1 → cnt + 1 < e + d → ∀ τ : Nat → Nat → Int, SF σ e τ → GJ g K (WC g q τ) 8 [(0, .ref (q 7)), (1, .ref (q 24)), (2, .int (iZ (e : Int)))] [] := by
  intro d
  induction d with
  | zero => intro e k0 k1 k2; omega
  | succ d ih =>
    intro e k0 k1 k2 τ hI
    have hc35 := hT.1
    obtain ⟨f1, f2, f3, f4⟩ := hI.2.1
    refine g_iload_n 2 C rfl dX5_straightFactor_8 rfl ?_
    refine g_aload_n 0 C rfl dX5_straightFactor_9 rfl ?_
    refine gf_X5_29 C dX5_straightFactor_10 ?_
    rw [show τ 7 1 = (cnt : Int) from ((congrFun (hI.1 7 (by decide)) 1).trans hT.2.1)]
    refine g_icmp_gt 94 C (by unfold I32; omega) (by unfold I32; omega) dX5_straightFactor_13 (by decide) (fun h1 => ?_) (fun h1 => ?_)
    · refine g_iconst C dX5_straightFactor_94 ?_
      refine g_zret (u := τ) C T dX5_straightFactor_95 (by omega) ?_
      refine ⟨_, rfl, Or.inl ⟨rfl, ?_⟩⟩
      rw [show cnt + 1 = e by omega]
      exact hI
    · have hb := hT.2.2.2.2.2 e (by omega)
      have hb8 := absZ_b hb.2.1
      refine g_aload_n 0 C rfl dX5_straightFactor_16 rfl ?_
      refine gf_X5_9 C dX5_straightFactor_17 ?_
      refine g_iload_n 2 C rfl dX5_straightFactor_20 rfl ?_
      refine g_lald C 8 e (by decide) (fun _ => rfl) (by omega) (by omega) (by decide) dX5_straightFactor_21 ?_
      rw [show τ 8 e = σ 8 e from congrFun (hI.1 8 (by decide)) _]
      refine g_labs C wm_X5_50 (by decide) (Nat.le_of_ble_eq_true rfl) (by have h9 := hb.2.1; unfold Bd at h9; unfold I64; omega) dX5_straightFactor_22 ?_
      refine g_lname (fun w2 ew2 => ?_)
      refine g_lstore_n (lv' := [(0, .ref (q 7)), (1, .ref (q 24)), (2, .int (iZ (e : Int))), (3, .long (lZ w2))]) [1, 2, 3, 0] C dX5_straightFactor_25 rfl (by decide) rfl ?_
      have hw9 : 0 ≤ w2 ∧ w2 ≤ 1600 := by rw [ew2]; exact hb8
      refine g_aload_n 0 C rfl dX5_straightFactor_26 rfl ?_
      refine gf_X5_16 C dX5_straightFactor_27 ?_
      refine g_iload_n 2 C rfl dX5_straightFactor_30 rfl ?_
      refine g_lald C 10 e (by decide) (fun _ => rfl) (by omega) (by omega) (by decide) dX5_straightFactor_31 ?_
      rw [show τ 10 e = σ 10 e from congrFun (hI.1 10 (by decide)) _]
      refine g_lconst 0 C dX5_straightFactor_32 (by decide) ?_
      refine g_lcmp_ne 88 C (by unfold I64; omega) (by unfold I64; omega) dX5_straightFactor_33 dX5_straightFactor_34 (by decide) (fun h3 => ?_) (fun h3 => ?_)
      · refine g_iinc (lv' := [(0, .ref (q 7)), (1, .ref (q 24)), (2, .int (iZ ((e : Int) + 1))), (3, .long (lZ w2))]) 2 [1, 2, 0, 3] C rfl dX5_straightFactor_88 (by decide) rfl ?_
        refine g_goto 8 C dX5_straightFactor_91 (by decide) ?_
        refine g_lv [0, 1, 2] rfl ?_
        refine ih (e + 1) (by omega) (by omega) (by omega) τ (sf_keep hI (fun h9 => ?_))
        have e9 : absZ (σ 8 e) = w2 := ew2.symm
        rw [e9]
        omega
      · refine g_lload_n 3 C rfl dX5_straightFactor_37 rfl ?_
        refine g_lconst 0 C dX5_straightFactor_38 (by decide) ?_
        refine g_lcmp_le 88 C (by unfold I64; omega) (by unfold I64; omega) dX5_straightFactor_39 dX5_straightFactor_40 (by decide) (fun h4 => ?_) (fun h4 => ?_)
        · refine g_iinc (lv' := [(0, .ref (q 7)), (1, .ref (q 24)), (2, .int (iZ ((e : Int) + 1))), (3, .long (lZ w2))]) 2 [1, 2, 0, 3] C rfl dX5_straightFactor_88 (by decide) rfl ?_
          refine g_goto 8 C dX5_straightFactor_91 (by decide) ?_
          refine g_lv [0, 1, 2] rfl ?_
          refine ih (e + 1) (by omega) (by omega) (by omega) τ (sf_keep hI (fun h9 => ?_))
          have e9 : absZ (σ 8 e) = w2 := ew2.symm
          rw [e9]
          rw [show w2 = 0 by omega, Int.zero_mul]
          exact Int.mul_nonneg hb.2.2.1 f1
        · refine g_aload_n 0 C rfl dX5_straightFactor_43 rfl ?_
          refine gf_X5_13 C dX5_straightFactor_44 ?_
          refine g_iload_n 2 C rfl dX5_straightFactor_47 rfl ?_
          refine g_lald C 9 e (by decide) (fun _ => rfl) (by omega) (by omega) (by decide) dX5_straightFactor_48 ?_
          rw [show τ 9 e = σ 9 e from congrFun (hI.1 9 (by decide)) _]
          refine g_lconst 0 C dX5_straightFactor_49 (by decide) ?_
          refine g_lcmp_ne 56 C (by unfold I64; omega) (by unfold I64; omega) dX5_straightFactor_50 dX5_straightFactor_51 (by decide) (fun h5 => ?_) (fun h5 => ?_)
          · refine g_lload_n 3 C rfl dX5_straightFactor_56 rfl ?_
            refine g_aload_n 1 C rfl dX5_straightFactor_57 rfl ?_
            refine gf_X5_83 (Or.inl rfl) C dX5_straightFactor_58 ?_
            refine g_lmul C dX5_straightFactor_61 ?_
            refine g_aload_n 0 C rfl dX5_straightFactor_62 rfl ?_
            refine gf_X5_13 C dX5_straightFactor_63 ?_
            refine g_iload_n 2 C rfl dX5_straightFactor_66 rfl ?_
            refine g_lald C 9 e (by decide) (fun _ => rfl) (by omega) (by omega) (by decide) dX5_straightFactor_67 ?_
            rw [show τ 9 e = σ 9 e from congrFun (hI.1 9 (by decide)) _]
            refine g_aload_n 1 C rfl dX5_straightFactor_68 rfl ?_
            refine gf_X5_79 (Or.inl rfl) C dX5_straightFactor_69 ?_
            refine g_lmul C dX5_straightFactor_72 ?_
            refine g_lcmp_le 88 C ((Bd.mul (a := w2) (b := τ 24 1) (A := 1600) (B := 1600) ⟨by omega, by omega⟩ ⟨by omega, by omega⟩).I (by decide)) ((Bd.mul (a := σ 9 e) (b := τ 24 0) (A := 1600) (B := 1600) ⟨by omega, by omega⟩ ⟨by omega, by omega⟩).I (by decide)) dX5_straightFactor_73 dX5_straightFactor_74 (by decide) (fun h6 => ?_) (fun h6 => ?_)
            · refine g_iinc (lv' := [(0, .ref (q 7)), (1, .ref (q 24)), (2, .int (iZ ((e : Int) + 1))), (3, .long (lZ w2))]) 2 [1, 2, 0, 3] C rfl dX5_straightFactor_88 (by decide) rfl ?_
              refine g_goto 8 C dX5_straightFactor_91 (by decide) ?_
              refine g_lv [0, 1, 2] rfl ?_
              refine ih (e + 1) (by omega) (by omega) (by omega) τ (sf_keep hI (fun h9 => ?_))
              have e9 : absZ (σ 8 e) = w2 := ew2.symm
              rw [e9]
              omega
            · refine g_aload_n 1 C rfl dX5_straightFactor_77 rfl ?_
              refine g_lload_n 3 C rfl dX5_straightFactor_78 rfl ?_
              refine g_aload_n 0 C rfl dX5_straightFactor_79 rfl ?_
              refine gf_X5_13 C dX5_straightFactor_80 ?_
              refine g_iload_n 2 C rfl dX5_straightFactor_83 rfl ?_
              refine g_lald C 9 e (by decide) (fun _ => rfl) (by omega) (by omega) (by decide) dX5_straightFactor_84 ?_
              rw [show τ 9 e = σ 9 e from congrFun (hI.1 9 (by decide)) _]
              refine g_callV C (c_X2_become g (σ := τ) (c := 24) (Or.inl rfl) (A := w2) (B := σ 9 e) ⟨by omega, by omega⟩ (by omega) (by omega)) gv_X5_69 yd_X2_become ⟨by decide, by decide⟩ 24 2 (WD_get (by decide)) rfl rfl (Nat.le_of_ble_eq_true rfl) dX5_straightFactor_85 ?_
              rintro _ rfl
              refine g_iinc (lv' := [(0, .ref (q 7)), (1, .ref (q 24)), (2, .int (iZ ((e : Int) + 1))), (3, .long (lZ w2))]) 2 [1, 2, 0, 3] C rfl dX5_straightFactor_88 (by decide) rfl ?_
              refine g_goto 8 C dX5_straightFactor_91 (by decide) ?_
              refine g_lv [0, 1, 2] rfl ?_
              exact ih (e + 1) (by omega) (by omega) (by omega) _ (sf_new hI (by omega) (by rw [ew2]; rfl) ⟨by omega, by omega⟩ rfl ⟨by omega, by omega⟩ (fun e' k5 k6 => (hT.2.2.2.2.2 e' (by omega)).2.2.1) k0 (by omega))
          · refine g_iconst C dX5_straightFactor_54 ?_
            refine g_zret (u := τ) C T dX5_straightFactor_55 (by omega) ?_
            refine ⟨_, rfl, Or.inr ⟨rfl, hI.1, fun a b hb5 hS => ?_⟩⟩
            have h9 := hS e k0 (by omega) (by omega)
            rw [show σ 9 e = 0 by omega, Int.zero_mul, show absZ (σ 8 e) = w2 from ew2.symm] at h9
            have h10 := Int.mul_pos (show 0 < w2 by omega) hb5
            omega
theorem sf_start {σ : Nat → Nat → Int} : SF σ 1 (redP σ 24 0 1) := by
  have e0 : redP σ 24 0 1 24 0 = 0 := by rw [redP_0]; decide
  have e1 : redP σ 24 0 1 24 1 = 1 := by rw [redP_1]; decide
  refine ⟨fun c hc => redP_c hc, ?_, ?_, fun e' h1 h2 => by omega, fun a b ha hb _ => ?_⟩
  · rw [e0, e1]; decide
  · rw [e0, e1]; decide
  · rw [e0, e1]; omega
set_option maxHeartbeats 4000000 in
set_option maxRecDepth 20000 in
theorem c_X5_straightFactor (g : Gx) {q : Nat → Nat} {σ : Nat → Nat → Int} {cnt : Nat} (hT : TB σ cnt) : MC g yX5_straightFactor cX5_straightFactor 5 ((some .boolean)) 2 52 (WC g q σ) [.ref (q 7), .ref (q 24)] (fun u => WC g q u) (pI (fun z u => (z = 1 ∧ SF σ (cnt + 1) u) ∨ (z = 0 ∧ Fr24 σ u ∧ ∀ a b : Int, 0 < b → ¬ Str σ cnt a b))) := by
  refine MC_intro (own := RX5) rfl (by decide) (Nat.le_of_ble_eq_true rfl) (fun K C T => ?_)
  show GJ g K (WC g q σ) 0 [(0, .ref (q 7)), (1, .ref (q 24))] []
  refine g_aload_n 1 C rfl dX5_straightFactor_0 rfl ?_
  refine g_lconst 0 C dX5_straightFactor_1 (by decide) ?_
  refine g_lconst 1 C dX5_straightFactor_2 (by decide) ?_
  refine g_callV C (c_X2_become g (σ := σ) (c := 24) (Or.inl rfl) (A := 0) (B := 1) ⟨by omega, by omega⟩ (by omega) (by omega)) gv_X5_69 yd_X2_become ⟨by decide, by decide⟩ 24 2 (WD_get (by decide)) rfl rfl (Nat.le_of_ble_eq_true rfl) dX5_straightFactor_3 ?_
  rintro _ rfl
  refine g_iconst C dX5_straightFactor_6 ?_
  refine g_istore_n (lv' := [(0, .ref (q 7)), (1, .ref (q 24)), (2, .int (iZ 1))]) [1, 2, 0] C dX5_straightFactor_7 rfl (by decide) rfl ?_
  exact lp_X5_straightFactor hT C T (cnt + 1) 1 (by omega) (by omega) (by omega) _ sf_start
