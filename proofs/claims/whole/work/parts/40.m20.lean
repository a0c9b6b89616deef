theorem EC_i7 {g : Gx} {q : Nat → Nat} {c : Nat} (h : (2 ≤ c ∧ c ≤ 6) ∨ c = 23) (f : Nat → Int) : EC g q c f = .inl (g.2.2.1, 7, .inl (fun j => iZ (f j))) := by
  have h1 : c = 2 ∨ c = 3 ∨ c = 4 ∨ c = 5 ∨ c = 6 ∨ c = 23 := by omega
  rcases h1 with rfl | rfl | rfl | rfl | rfl | rfl <;> rfl
def allS (x w : Nat → Int) (L : Int) : Nat → Int
  | 0 => 0
  | 1 => 0
  | (j + 2) => allS x w L (j + 1) + w (j + 1) * (L - x (j + 1))
def ahS (x w : Nat → Int) (i : Nat) : Nat → Int
  | 0 => 0
  | 1 => 0
  | (j + 2) => ahS x w i (j + 1) + w (j + 1) * (x i - x (j + 1))
theorem mo_lo (x w : Nat → Int) (L : Int) (i : Nat) : ∀ j, j ≤ i → mosum x w L i j = x i * allS x w L j - L * ahS x w i j
  | 0, _ => by simp [mosum, allS, ahS]
  | 1, _ => by simp [mosum, allS, ahS]
  | (j + 2), h => by
    have ih := mo_lo x w L i (j + 1) (by omega)
    rw [mosum_s, if_pos (by omega), ih]
    show _ = x i * (allS x w L (j + 1) + w (j + 1) * (L - x (j + 1))) - L * (ahS x w i (j + 1) + w (j + 1) * (x i - x (j + 1)))
    grind
theorem mo_hi (x w : Nat → Int) (L : Int) (i : Nat) : ∀ j, i ≤ j → mosum x w L i j = x i * allS x w L j - L * ahS x w i i
  | 0, h => by
    obtain rfl : i = 0 := by omega
    simp [mosum, allS, ahS]
  | 1, h => by
    rcases (show i = 0 ∨ i = 1 by omega) with rfl | rfl <;> simp [mosum, allS, ahS]
  | (j + 2), h => by
    by_cases he : i = j + 2
    · subst he; exact mo_lo x w L (j + 2) (j + 2) (Nat.le_refl _)
    · have ih := mo_hi x w L i (j + 1) (by omega)
      rw [mosum_s, if_neg (by omega), ih]
      show _ = x i * (allS x w L (j + 1) + w (j + 1) * (L - x (j + 1))) - L * ahS x w i i
      grind
def WG (σ : Nat → Nat → Int) (lc n : Nat) (u : Nat → Nat → Int) : Prop := (∀ c, c ≠ 6 → u c = σ c) ∧ ∀ j, j ≤ n → u 6 j = mosum (σ 2) (σ lc) (σ 2 n) j n
/-- how far a lies above the chord of b, times the way between -/
def rs (x a b : Nat → Int) (i j r : Nat) : Int := (x r - x i) * a j - ((x r - x j) * b i + (x j - x i) * b r)
set_option maxHeartbeats 4000000 in
set_option maxRecDepth 20000 in
theorem c_X0_span (g : Gx) {q : Nat → Nat} {σ : Nat → Nat → Int} {nn : Nat} (hn : σ 1 0 = (nn : Int)) (hn2 : 2 ≤ nn) (hn6 : nn ≤ 6) : MC g yX0_span cX0_span 1 ((some .int)) 0 0 (WC g q σ) [.ref (q 1)] (fun _ : Unit => WC g q σ) (pI (fun z _ => z = σ 2 nn)) := by
  refine MC_intro (own := RX0) rfl (by decide) (Nat.le_of_ble_eq_true rfl) (fun K C T => ?_)
  show GJ g K (WC g q σ) 0 [(0, .ref (q 1))] []
  refine g_aload_n 0 C rfl dX0_span_0 rfl ?_
  refine gf_X0_9 C dX0_span_1 ?_
  refine g_aload_n 0 C rfl dX0_span_4 rfl ?_
  refine gf_X0_27 C dX0_span_5 ?_
  rw [show σ 1 0 = (nn : Int) from hn]
  refine g_iald C 2 nn (by decide) (fun _ => rfl) (by omega) (by omega) (by decide) dX0_span_8 ?_
  refine g_iret (u := ()) C T dX0_span_9 ?_
  exact ⟨_, rfl, rfl⟩
set_option maxHeartbeats 4000000 in
set_option maxRecDepth 20000 in
theorem c_X0_hasJoint (g : Gx) {q : Nat → Nat} {σ : Nat → Nat → Int} {nn : Nat} (hn : σ 1 0 = (nn : Int)) (hn2 : 2 ≤ nn) (hn6 : nn ≤ 6) {ia : Int} (h_ia : I32 ia) : MC g yX0_hasJoint cX0_hasJoint 2 ((some .boolean)) 0 0 (WC g q σ) [.ref (q 1), .int (iZ ia)] (fun _ : Unit => WC g q σ) (pI (fun z _ => z = bZ (0 ≤ ia ∧ ia ≤ (nn : Int)))) := by
  refine MC_intro (own := RX0) rfl (by decide) (Nat.le_of_ble_eq_true rfl) (fun K C T => ?_)
  show GJ g K (WC g q σ) 0 [(0, .ref (q 1)), (1, .int (iZ ia))] []
  refine g_iload_n 1 C rfl dX0_hasJoint_0 rfl ?_
  refine g_if_lt 16 C h_ia dX0_hasJoint_1 (by decide) (fun h1 => ?_) (fun h1 => ?_)
  · refine g_iconst C dX0_hasJoint_16 ?_
    refine g_zret (u := ()) C T dX0_hasJoint_17 (by omega) ?_
    exact ⟨_, rfl, (bZ_f (by omega)).symm⟩
  · refine g_iload_n 1 C rfl dX0_hasJoint_4 rfl ?_
    refine g_aload_n 0 C rfl dX0_hasJoint_5 rfl ?_
    refine gf_X0_27 C dX0_hasJoint_6 ?_
    rw [show σ 1 0 = (nn : Int) from hn]
    refine g_icmp_gt 16 C h_ia (by unfold I32 at *; omega) dX0_hasJoint_9 (by decide) (fun h2 => ?_) (fun h2 => ?_)
    · refine g_iconst C dX0_hasJoint_16 ?_
      refine g_zret (u := ()) C T dX0_hasJoint_17 (by omega) ?_
      exact ⟨_, rfl, (bZ_f (by omega)).symm⟩
    · refine g_iconst C dX0_hasJoint_12 ?_
      refine g_goto 17 C dX0_hasJoint_13 (by decide) ?_
      refine g_zret (u := ()) C T dX0_hasJoint_17 (by omega) ?_
      exact ⟨_, rfl, (bZ_t (by omega)).symm⟩
set_option maxHeartbeats 4000000 in
set_option maxRecDepth 20000 in
theorem c_X0_hasInnerJoint (g : Gx) {q : Nat → Nat} {σ : Nat → Nat → Int} {nn : Nat} (hn : σ 1 0 = (nn : Int)) (hn2 : 2 ≤ nn) (hn6 : nn ≤ 6) {ia : Int} (h_ia : I32 ia) : MC g yX0_hasInnerJoint cX0_hasInnerJoint 2 ((some .boolean)) 0 0 (WC g q σ) [.ref (q 1), .int (iZ ia)] (fun _ : Unit => WC g q σ) (pI (fun z _ => z = bZ (1 ≤ ia ∧ ia < (nn : Int)))) := by
  refine MC_intro (own := RX0) rfl (by decide) (Nat.le_of_ble_eq_true rfl) (fun K C T => ?_)
  show GJ g K (WC g q σ) 0 [(0, .ref (q 1)), (1, .int (iZ ia))] []
  refine g_iload_n 1 C rfl dX0_hasInnerJoint_0 rfl ?_
  refine g_iconst C dX0_hasInnerJoint_1 ?_
  refine g_icmp_lt 17 C h_ia (by unfold I32 at *; omega) dX0_hasInnerJoint_2 (by decide) (fun h1 => ?_) (fun h1 => ?_)
  · refine g_iconst C dX0_hasInnerJoint_17 ?_
    refine g_zret (u := ()) C T dX0_hasInnerJoint_18 (by omega) ?_
    exact ⟨_, rfl, (bZ_f (by omega)).symm⟩
  · refine g_iload_n 1 C rfl dX0_hasInnerJoint_5 rfl ?_
    refine g_aload_n 0 C rfl dX0_hasInnerJoint_6 rfl ?_
    refine gf_X0_27 C dX0_hasInnerJoint_7 ?_
    rw [show σ 1 0 = (nn : Int) from hn]
    refine g_icmp_ge 17 C h_ia (by unfold I32 at *; omega) dX0_hasInnerJoint_10 (by decide) (fun h2 => ?_) (fun h2 => ?_)
    · refine g_iconst C dX0_hasInnerJoint_17 ?_
      refine g_zret (u := ()) C T dX0_hasInnerJoint_18 (by omega) ?_
      exact ⟨_, rfl, (bZ_f (by omega)).symm⟩
    · refine g_iconst C dX0_hasInnerJoint_13 ?_
      refine g_goto 18 C dX0_hasInnerJoint_14 (by decide) ?_
      refine g_zret (u := ()) C T dX0_hasInnerJoint_18 (by omega) ?_
      exact ⟨_, rfl, (bZ_t (by omega)).symm⟩
set_option maxHeartbeats 4000000 in
set_option maxRecDepth 20000 in
theorem lp_X0_renew {g : Gx} {K : Kx} {q : Nat → Nat} {σ : Nat → Nat → Int} {nn : Nat} {na : Int} (hna : na = (nn : Int)) (hn2 : 2 ≤ nn) (hn6 : nn ≤ 6) (C : CX g K cX0_renew RX0 3 0 0) (T : RT g K none (fun u => WC g q u) (pV (fun u => (¬ (2 ≤ na ∧ na ≤ 6) ∧ u = σ) ∨ ((2 ≤ na ∧ na ≤ 6) ∧ u = bgS σ 1 0 2 3 4 5 na.toNat)))) : ∀ (d i : Nat), i ≤ nn + 1 → nn + 1 < i + d → ∀ τ : Nat → Nat → Int, BgI σ τ 1 0 2 3 4 5 nn i → GJ g K (WC g q τ) 19 [(0, .ref (q 1)), (1, .int (iZ (nn : Int))), (2, .int (iZ (i : Int)))] [] := by
  intro d
  induction d with
  | zero => intro i k1 k2; omega
  | succ d ih =>
    intro i k1 k2 τ hB
    refine g_iload_n 2 C rfl dX0_renew_19 rfl ?_
    refine g_iload_n 1 C rfl dX0_renew_20 rfl ?_
    refine g_icmp_gt 63 C (by unfold I32; omega) (by unfold I32; omega) dX0_renew_21 (by decide) (fun h1 => ?_) (fun h1 => ?_)
    · refine g_vret (u := τ) C T dX0_renew_63 ?_
      obtain rfl : i = nn + 1 := by omega
      refine ⟨rfl, Or.inr ⟨by omega, ?_⟩⟩
      rw [show na.toNat = nn by omega]
      exact bg_end (by decide) hB
    · refine g_aload_n 0 C rfl dX0_renew_24 rfl ?_
      refine gf_X0_9 C dX0_renew_25 ?_
      refine g_iload_n 2 C rfl dX0_renew_28 rfl ?_
      refine g_bipush C dX0_renew_29 (by decide) ?_
      refine g_iload_n 2 C rfl dX0_renew_31 rfl ?_
      refine g_imul C dX0_renew_32 ?_
      refine g_iload_n 1 C rfl dX0_renew_33 rfl ?_
      refine g_idiv C dX0_renew_34 (by unfold I32; omega) (by unfold I32; omega) (by omega) ?_
      refine g_iast C 2 i (by decide) (fun _ => rfl) (by omega) (by omega) (by decide) dX0_renew_35 ?_
      refine g_aload_n 0 C rfl dX0_renew_36 rfl ?_
      refine gf_X0_15 C dX0_renew_37 ?_
      refine g_iload_n 2 C rfl dX0_renew_40 rfl ?_
      refine g_iconst C dX0_renew_41 ?_
      refine g_iast C 3 i (by decide) (fun _ => rfl) (by omega) (by omega) (by decide) dX0_renew_42 ?_
      refine g_aload_n 0 C rfl dX0_renew_43 rfl ?_
      refine gf_X0_18 C dX0_renew_44 ?_
      refine g_iload_n 2 C rfl dX0_renew_47 rfl ?_
      refine g_iconst C dX0_renew_48 ?_
      refine g_iast C 4 i (by decide) (fun _ => rfl) (by omega) (by omega) (by decide) dX0_renew_49 ?_
      refine g_aload_n 0 C rfl dX0_renew_50 rfl ?_
      refine gf_X0_21 C dX0_renew_51 ?_
      refine g_iload_n 2 C rfl dX0_renew_54 rfl ?_
      refine g_iconst C dX0_renew_55 ?_
      refine g_iast C 5 i (by decide) (fun _ => rfl) (by omega) (by omega) (by decide) dX0_renew_56 ?_
      refine g_iinc (lv' := [(0, .ref (q 1)), (1, .int (iZ (nn : Int))), (2, .int (iZ ((i : Int) + 1)))]) 2 [1, 2, 0] C rfl dX0_renew_57 (by decide) rfl ?_
      refine g_goto 19 C dX0_renew_60 (by decide) ?_
      refine ih (i + 1) (by omega) (by omega) _ ⟨fun c h0 h1 h2 h3 h4 => by rw [up_c h4, up_c h3, up_c h2, up_c h1]; exact hB.1 c h0 h1 h2 h3 h4, fun k hk => hB.2.1 k hk, hB.2.2.1, bgX_s (by omega) hB.2.2.2.1, bgC_s hB.2.2.2.2.1, bgC_s hB.2.2.2.2.2.1, bgC_s hB.2.2.2.2.2.2⟩
set_option maxHeartbeats 4000000 in
set_option maxRecDepth 20000 in
theorem c_X0_renew (g : Gx) {q : Nat → Nat} {σ : Nat → Nat → Int} {na : Int} (h_na : I32 na) : MC g yX0_renew cX0_renew 3 (none) 0 0 (WC g q σ) [.ref (q 1), .int (iZ na)] (fun u => WC g q u) (pV (fun u => (¬ (2 ≤ na ∧ na ≤ 6) ∧ u = σ) ∨ ((2 ≤ na ∧ na ≤ 6) ∧ u = bgS σ 1 0 2 3 4 5 na.toNat))) := by
  refine MC_intro (own := RX0) rfl (by decide) (Nat.le_of_ble_eq_true rfl) (fun K C T => ?_)
  show GJ g K (WC g q σ) 0 [(0, .ref (q 1)), (1, .int (iZ na))] []
  refine g_iload_n 1 C rfl dX0_renew_0 rfl ?_
  refine g_iconst C dX0_renew_1 ?_
  refine g_icmp_lt 11 C h_na (by unfold I32 at *; omega) dX0_renew_2 (by decide) (fun h1 => ?_) (fun h1 => ?_)
  · refine g_vret (u := σ) C T dX0_renew_11 ?_
    exact ⟨rfl, Or.inl ⟨by omega, rfl⟩⟩
  · refine g_iload_n 1 C rfl dX0_renew_5 rfl ?_
    refine g_bipush C dX0_renew_6 (by decide) ?_
    refine g_icmp_le 12 C h_na (by unfold I32 at *; omega) dX0_renew_8 (by decide) (fun h2 => ?_) (fun h2 => ?_)
    · refine g_aload_n 0 C rfl dX0_renew_12 rfl ?_
      refine g_iload_n 1 C rfl dX0_renew_13 rfl ?_
      refine pf_X0_27 C dX0_renew_14 ?_
      refine g_iconst C dX0_renew_17 ?_
      refine g_istore_n (lv' := [(0, .ref (q 1)), (1, .int (iZ na)), (2, .int (iZ 0))]) [1, 2, 0] C dX0_renew_18 rfl (by decide) rfl ?_
      have hna : na = ((na.toNat : Nat) : Int) := by omega
      have h9 := lp_X0_renew (g := g) (q := q) (σ := σ) hna (by omega) (by omega) C T (na.toNat + 2) 0 (by omega) (by omega) (up σ 1 0 (na.toNat : Int)) ⟨fun c h0 _ _ _ _ => up_c h0, fun k hk => up_k hk, up_s _ _ _ _, fun j => by rw [if_neg (by omega), up_c (by decide)], fun j => by rw [if_neg (by omega), up_c (by decide)], fun j => by rw [if_neg (by omega), up_c (by decide)], fun j => by rw [if_neg (by omega), up_c (by decide)]⟩
      rw [← hna] at h9
      exact h9
    · refine g_vret (u := σ) C T dX0_renew_11 ?_
      exact ⟨rfl, Or.inl ⟨by omega, rfl⟩⟩
set_option maxHeartbeats 4000000 in
set_option maxRecDepth 20000 in
theorem wg3_X0 {g : Gx} {K : Kx} {q : Nat → Nat} {σ : Nat → Nat → Int} {nn : Nat} (hn : σ 1 0 = (nn : Int)) (hn2 : 2 ≤ nn) (hn6 : nn ≤ 6) {lc : Nat} (hlc : lc = 5 ∨ lc = 23) {i : Nat} {al : Int} (hi : i ≤ nn) {τ : Nat → Nat → Int} (hF : ∀ c, c ≠ 6 → τ c = σ c) (C : CX g K cX0_weigh RX0 7 1 20) (hk : ∀ j9 : Int, GJ g K (WC g q τ) 98 [(0, .ref (q 1)), (1, .ref (q lc)), (2, .int (iZ (σ 2 nn))), (3, .int (iZ al)), (4, .int (iZ (i : Int))), (5, .int (iZ (ahS (σ 2) (σ lc) i i))), (6, .int (iZ j9))] []) : ∀ (d j : Nat), 1 ≤ j → (j ≤ i ∨ (j = 1 ∧ i = 0)) → i + 1 < j + d → ∀ ah : Int, ah = ahS (σ 2) (σ lc) i j → GJ g K (WC g q τ) 60 [(0, .ref (q 1)), (1, .ref (q lc)), (2, .int (iZ (σ 2 nn))), (3, .int (iZ al)), (4, .int (iZ (i : Int))), (5, .int (iZ ah)), (6, .int (iZ (j : Int)))] [] := by
  intro d
  induction d with
  | zero => intro j k0 k1 k2; omega
  | succ d ih =>
    intro j k0 k1 k2 ah ha
    refine g_iload 6 C rfl dX0_weigh_60 ?_
    refine g_iload 4 C rfl dX0_weigh_62 ?_
    refine g_icmp_ge 98 C (by unfold I32; omega) (by unfold I32; omega) dX0_weigh_64 (by decide) (fun h1 => ?_) (fun h1 => ?_)
    · have e9 : ah = ahS (σ 2) (σ lc) i i := by
        rw [ha]
        rcases k1 with h | ⟨rfl, rfl⟩
        · rw [show j = i by omega]
        · rfl
      rw [e9]
      exact hk _
    · refine g_iload 5 C rfl dX0_weigh_67 ?_
      refine g_aload_n 1 C rfl dX0_weigh_69 rfl ?_
      refine g_iload 6 C rfl dX0_weigh_70 ?_
      refine g_iald C lc j (by omega) (EC_i7 (by omega)) (by omega) (by omega) (by decide) dX0_weigh_72 ?_
      rw [show τ lc j = σ lc j from congrFun (hF lc (by omega)) _]
      refine g_aload_n 0 C rfl dX0_weigh_73 rfl ?_
      refine gf_X0_9 C dX0_weigh_74 ?_
      refine g_iload 4 C rfl dX0_weigh_77 ?_
      refine g_iald C 2 i (by decide) (fun _ => rfl) (by omega) (by omega) (by decide) dX0_weigh_79 ?_
      rw [show τ 2 i = σ 2 i from congrFun (hF 2 (by decide)) _]
      refine g_aload_n 0 C rfl dX0_weigh_80 rfl ?_
      refine gf_X0_9 C dX0_weigh_81 ?_
      refine g_iload 6 C rfl dX0_weigh_84 ?_
      refine g_iald C 2 j (by decide) (fun _ => rfl) (by omega) (by omega) (by decide) dX0_weigh_86 ?_
      rw [show τ 2 j = σ 2 j from congrFun (hF 2 (by decide)) _]
      refine g_isub C dX0_weigh_87 ?_
      refine g_imul C dX0_weigh_88 ?_
      refine g_iadd C dX0_weigh_89 ?_
      refine g_iname (fun w2 ew2 => ?_)
      refine g_istore (lv' := [(0, .ref (q 1)), (1, .ref (q lc)), (2, .int (iZ (σ 2 nn))), (3, .int (iZ al)), (4, .int (iZ (i : Int))), (5, .int (iZ w2)), (6, .int (iZ (j : Int)))]) [1, 2, 3, 4, 5, 0, 6] C dX0_weigh_90 (by decide) rfl ?_
      refine g_iinc (lv' := [(0, .ref (q 1)), (1, .ref (q lc)), (2, .int (iZ (σ 2 nn))), (3, .int (iZ al)), (4, .int (iZ (i : Int))), (5, .int (iZ w2)), (6, .int (iZ ((j : Int) + 1)))]) 6 [1, 2, 3, 4, 5, 6, 0] C rfl dX0_weigh_92 (by decide) rfl ?_
      refine g_goto 60 C dX0_weigh_95 (by decide) ?_
      refine ih (j + 1) (by omega) (by omega) (by omega) w2 ?_
      obtain ⟨j9, rfl⟩ : ∃ j9, j = j9 + 1 := ⟨j - 1, by omega⟩
      rw [ew2, ha]
      rfl
set_option maxHeartbeats 4000000 in
set_option maxRecDepth 20000 in
theorem wg2_X0 {g : Gx} {K : Kx} {q : Nat → Nat} {σ : Nat → Nat → Int} {nn : Nat} (hn : σ 1 0 = (nn : Int)) (hn2 : 2 ≤ nn) (hn6 : nn ≤ 6) {lc : Nat} (hlc : lc = 5 ∨ lc = 23) {al : Int} (hal : al = allS (σ 2) (σ lc) (σ 2 nn) nn) (C : CX g K cX0_weigh RX0 7 1 20) (T : RT g K none (fun u => WC g q u) (pV (fun u => WG σ lc nn u))) : ∀ (d i : Nat), i ≤ nn + 1 → nn + 1 < i + d → ∀ τ : Nat → Nat → Int, (∀ c, c ≠ 6 → τ c = σ c) → (∀ j, j < i → τ 6 j = mosum (σ 2) (σ lc) (σ 2 nn) j nn) → GJ g K (WC g q τ) 45 [(0, .ref (q 1)), (1, .ref (q lc)), (2, .int (iZ (σ 2 nn))), (3, .int (iZ al)), (4, .int (iZ (i : Int)))] [] := by
  intro d
  induction d with
  | zero => intro i k1 k2; omega
  | succ d ih =>
    intro i k1 k2 τ hF hI
    refine g_iload 4 C rfl dX0_weigh_45 ?_
    refine g_aload_n 0 C rfl dX0_weigh_47 rfl ?_
    refine gf_X0_27 C dX0_weigh_48 ?_
    rw [show τ 1 0 = (nn : Int) from ((congrFun (hF 1 (by decide)) 0).trans hn)]
    refine g_icmp_gt 125 C (by unfold I32; omega) (by unfold I32; omega) dX0_weigh_51 (by decide) (fun h1 => ?_) (fun h1 => ?_)
    · refine g_vret (u := τ) C T dX0_weigh_125 ?_
      exact ⟨rfl, hF, fun j hj => hI j (by omega)⟩
    · refine g_iconst C dX0_weigh_54 ?_
      refine g_istore (lv' := [(0, .ref (q 1)), (1, .ref (q lc)), (2, .int (iZ (σ 2 nn))), (3, .int (iZ al)), (4, .int (iZ (i : Int))), (5, .int (iZ 0))]) [1, 2, 3, 4, 5, 0] C dX0_weigh_55 (by decide) rfl ?_
      refine g_iconst C dX0_weigh_57 ?_
      refine g_istore (lv' := [(0, .ref (q 1)), (1, .ref (q lc)), (2, .int (iZ (σ 2 nn))), (3, .int (iZ al)), (4, .int (iZ (i : Int))), (5, .int (iZ 0)), (6, .int (iZ 1))]) [1, 2, 3, 4, 5, 6, 0] C dX0_weigh_58 (by decide) rfl ?_
      refine wg3_X0 hn hn2 hn6 hlc (by omega) hF C (fun j9 => ?_) (i + 1) 1 (by omega) (by omega) (by omega) 0 rfl
      refine g_aload_n 0 C rfl dX0_weigh_98 rfl ?_
      refine gf_X0_24 C dX0_weigh_99 ?_
      refine g_iload 4 C rfl dX0_weigh_102 ?_
      refine g_aload_n 0 C rfl dX0_weigh_104 rfl ?_
      refine gf_X0_9 C dX0_weigh_105 ?_
      refine g_iload 4 C rfl dX0_weigh_108 ?_
      refine g_iald C 2 i (by decide) (fun _ => rfl) (by omega) (by omega) (by decide) dX0_weigh_110 ?_
      rw [show τ 2 i = σ 2 i from congrFun (hF 2 (by decide)) _]
      refine g_iload_n 3 C rfl dX0_weigh_111 rfl ?_
      refine g_imul C dX0_weigh_112 ?_
      refine g_iload_n 2 C rfl dX0_weigh_113 rfl ?_
      refine g_iload 5 C rfl dX0_weigh_114 ?_
      refine g_imul C dX0_weigh_116 ?_
      refine g_isub C dX0_weigh_117 ?_
      refine g_iast C 6 i (by decide) (fun _ => rfl) (by omega) (by omega) (by decide) dX0_weigh_118 ?_
      refine g_iinc (lv' := [(0, .ref (q 1)), (1, .ref (q lc)), (2, .int (iZ (σ 2 nn))), (3, .int (iZ al)), (4, .int (iZ ((i : Int) + 1))), (5, .int (iZ (ahS (σ 2) (σ lc) i i))), (6, .int (iZ j9))]) 4 [1, 2, 3, 4, 0, 5, 6] C rfl dX0_weigh_119 (by decide) rfl ?_
      refine g_goto 45 C dX0_weigh_122 (by decide) ?_
      refine g_lv [0, 1, 2, 3, 4] rfl ?_
      refine ih (i + 1) (by omega) (by omega) _ (fun c hc => by rw [up_c hc]; exact hF c hc) (fun j hj => ?_)
      by_cases he : j = i
      · subst he; rw [up_s, mo_hi _ _ _ _ nn (by omega), hal]
      · rw [up_k he]; exact hI j (by omega)
set_option maxHeartbeats 4000000 in
set_option maxRecDepth 20000 in
theorem wg1_X0 {g : Gx} {K : Kx} {q : Nat → Nat} {σ : Nat → Nat → Int} {nn : Nat} (hn : σ 1 0 = (nn : Int)) (hn2 : 2 ≤ nn) (hn6 : nn ≤ 6) {lc : Nat} (hlc : lc = 5 ∨ lc = 23) (C : CX g K cX0_weigh RX0 7 1 20) (T : RT g K none (fun u => WC g q u) (pV (fun u => WG σ lc nn u))) : ∀ (d j : Nat), 1 ≤ j → j ≤ nn → nn < j + d → ∀ al : Int, al = allS (σ 2) (σ lc) (σ 2 nn) j → GJ g K (WC g q σ) 10 [(0, .ref (q 1)), (1, .ref (q lc)), (2, .int (iZ (σ 2 nn))), (3, .int (iZ al)), (4, .int (iZ (j : Int)))] [] := by
  intro d
  induction d with
  | zero => intro j k0 k1 k2; omega
  | succ d ih =>
    intro j k0 k1 k2 al ha
    refine g_iload 4 C rfl dX0_weigh_10 ?_
    refine g_aload_n 0 C rfl dX0_weigh_12 rfl ?_
    refine gf_X0_27 C dX0_weigh_13 ?_
    rw [show σ 1 0 = (nn : Int) from hn]
    refine g_icmp_ge 42 C (by unfold I32; omega) (by unfold I32; omega) dX0_weigh_16 (by decide) (fun h1 => ?_) (fun h1 => ?_)
    · refine g_iconst C dX0_weigh_42 ?_
      refine g_istore (lv' := [(0, .ref (q 1)), (1, .ref (q lc)), (2, .int (iZ (σ 2 nn))), (3, .int (iZ al)), (4, .int (iZ 0))]) [1, 2, 3, 4, 0] C dX0_weigh_43 (by decide) rfl ?_
      obtain rfl : j = nn := by omega
      exact wg2_X0 hn hn2 hn6 hlc ha C T (j + 2) 0 (by omega) (by omega) σ (fun _ _ => rfl) (fun j9 h9 => absurd h9 (by omega))
    · refine g_iload_n 3 C rfl dX0_weigh_19 rfl ?_
      refine g_aload_n 1 C rfl dX0_weigh_20 rfl ?_
      refine g_iload 4 C rfl dX0_weigh_21 ?_
      refine g_iald C lc j (by omega) (EC_i7 (by omega)) (by omega) (by omega) (by decide) dX0_weigh_23 ?_
      refine g_iload_n 2 C rfl dX0_weigh_24 rfl ?_
      refine g_aload_n 0 C rfl dX0_weigh_25 rfl ?_
      refine gf_X0_9 C dX0_weigh_26 ?_
      refine g_iload 4 C rfl dX0_weigh_29 ?_
      refine g_iald C 2 j (by decide) (fun _ => rfl) (by omega) (by omega) (by decide) dX0_weigh_31 ?_
      refine g_isub C dX0_weigh_32 ?_
      refine g_imul C dX0_weigh_33 ?_
      refine g_iadd C dX0_weigh_34 ?_
      refine g_iname (fun w2 ew2 => ?_)
      refine g_istore_n (lv' := [(0, .ref (q 1)), (1, .ref (q lc)), (2, .int (iZ (σ 2 nn))), (3, .int (iZ w2)), (4, .int (iZ (j : Int)))]) [1, 2, 3, 0, 4] C dX0_weigh_35 rfl (by decide) rfl ?_
      refine g_iinc (lv' := [(0, .ref (q 1)), (1, .ref (q lc)), (2, .int (iZ (σ 2 nn))), (3, .int (iZ w2)), (4, .int (iZ ((j : Int) + 1)))]) 4 [1, 2, 3, 4, 0] C rfl dX0_weigh_36 (by decide) rfl ?_
      refine g_goto 10 C dX0_weigh_39 (by decide) ?_
      refine ih (j + 1) (by omega) (by omega) (by omega) w2 ?_
      obtain ⟨j9, rfl⟩ : ∃ j9, j = j9 + 1 := ⟨j - 1, by omega⟩
      rw [ew2, ha]
      rfl
set_option maxHeartbeats 4000000 in
set_option maxRecDepth 20000 in
theorem c_X0_weigh (g : Gx) {q : Nat → Nat} {σ : Nat → Nat → Int} {nn : Nat} (hn : σ 1 0 = (nn : Int)) (hn2 : 2 ≤ nn) (hn6 : nn ≤ 6) {lc : Nat} (hlc : lc = 5 ∨ lc = 23) : MC g yX0_weigh cX0_weigh 7 (none) 1 20 (WC g q σ) [.ref (q 1), .ref (q lc)] (fun u => WC g q u) (pV (fun u => WG σ lc nn u)) := by
  refine MC_intro (own := RX0) rfl (by decide) (Nat.le_of_ble_eq_true rfl) (fun K C T => ?_)
  show GJ g K (WC g q σ) 0 [(0, .ref (q 1)), (1, .ref (q lc))] []
  refine g_aload_n 0 C rfl dX0_weigh_0 rfl ?_
  refine g_callI C (c_X0_span g (σ := σ) hn hn2 hn6) gv_X0_42 yd_X0_span ⟨by decide, by decide⟩ 1 0 (WD_get (by decide)) rfl rfl (Nat.le_of_ble_eq_true rfl) dX0_weigh_1 ?_
  rintro _ _ rfl
  refine g_iname (fun w1 ew1 => ?_)
  refine g_istore_n (lv' := [(0, .ref (q 1)), (1, .ref (q lc)), (2, .int (iZ w1))]) [1, 2, 0] C dX0_weigh_4 rfl (by decide) rfl ?_
  refine g_iconst C dX0_weigh_5 ?_
  refine g_istore_n (lv' := [(0, .ref (q 1)), (1, .ref (q lc)), (2, .int (iZ w1)), (3, .int (iZ 0))]) [1, 2, 3, 0] C dX0_weigh_6 rfl (by decide) rfl ?_
  refine g_iconst C dX0_weigh_7 ?_
  refine g_istore (lv' := [(0, .ref (q 1)), (1, .ref (q lc)), (2, .int (iZ w1)), (3, .int (iZ 0)), (4, .int (iZ 1))]) [1, 2, 3, 4, 0] C dX0_weigh_8 (by decide) rfl ?_
  subst ew1
  exact wg1_X0 hn hn2 hn6 hlc C T nn 1 (by omega) (by omega) (by omega) 0 rfl
theorem rs_bd {x a b : Nat → Int} {n : Nat} (hx : ∀ i, i ≤ n → 0 ≤ x i ∧ x i ≤ 20) (ha : ∀ i, i ≤ n → Bd (a i) 40000) (hb : ∀ i, i ≤ n → Bd (b i) 40000) {i j r : Nat} (hi : i ≤ n) (hj : j ≤ n) (hr : r ≤ n) : Bd ((x r - x j) * b i + (x j - x i) * b r) 1600000 ∧ Bd ((x r - x i) * a j) 800000 := by
  have h1 := hx i hi
  have h2 := hx j hj
  have h3 := hx r hr
  exact ⟨(Bd.mul (A := 20) ⟨by omega, by omega⟩ (hb i hi)).add (Bd.mul (A := 20) ⟨by omega, by omega⟩ (hb r hr)), Bd.mul (A := 20) ⟨by omega, by omega⟩ (ha j hj)⟩
set_option maxHeartbeats 4000000 in
set_option maxRecDepth 20000 in
theorem c_X0_rise (g : Gx) {q : Nat → Nat} {σ : Nat → Nat → Int} {nn : Nat} (hn6 : nn ≤ 6) (hx : ∀ i, i ≤ nn → 0 ≤ σ 2 i ∧ σ 2 i ≤ 20) {ka kb : Nat} (hka : 2 ≤ ka ∧ ka ≤ 6) (hkb : 2 ≤ kb ∧ kb ≤ 6) (ha : ∀ i, i ≤ nn → Bd (σ ka i) 40000) (hb : ∀ i, i ≤ nn → Bd (σ kb i) 40000) {i j r : Nat} (hi : i ≤ nn) (hj : j ≤ nn) (hr : r ≤ nn) : MC g yX0_rise cX0_rise 8 ((some .long)) 0 0 (WC g q σ) [.ref (q 1), .ref (q ka), .ref (q kb), .int (iZ (i : Int)), .int (iZ (j : Int)), .int (iZ (r : Int))] (fun _ : Unit => WC g q σ) (pL (fun z _ => z = rs (σ 2) (σ ka) (σ kb) i j r)) := by
  refine MC_intro (own := RX0) rfl (by decide) (Nat.le_of_ble_eq_true rfl) (fun K C T => ?_)
  show GJ g K (WC g q σ) 0 [(0, .ref (q 1)), (1, .ref (q ka)), (2, .ref (q kb)), (3, .int (iZ (i : Int))), (4, .int (iZ (j : Int))), (5, .int (iZ (r : Int)))] []
  refine g_aload_n 0 C rfl dX0_rise_0 rfl ?_
  refine gf_X0_9 C dX0_rise_1 ?_
  refine g_iload 5 C rfl dX0_rise_4 ?_
  refine g_iald C 2 r (by decide) (fun _ => rfl) (by omega) (by omega) (by decide) dX0_rise_6 ?_
  refine g_aload_n 0 C rfl dX0_rise_7 rfl ?_
  refine gf_X0_9 C dX0_rise_8 ?_
  refine g_iload 4 C rfl dX0_rise_11 ?_
  refine g_iald C 2 j (by decide) (fun _ => rfl) (by omega) (by omega) (by decide) dX0_rise_13 ?_
  refine g_isub C dX0_rise_14 ?_
  refine g_aload_n 2 C rfl dX0_rise_15 rfl ?_
  refine g_iload_n 3 C rfl dX0_rise_16 rfl ?_
  refine g_iald C kb i (by omega) (EC_i7 (by omega)) (by omega) (by omega) (by decide) dX0_rise_17 ?_
  refine g_imul C dX0_rise_18 ?_
  refine g_aload_n 0 C rfl dX0_rise_19 rfl ?_
  refine gf_X0_9 C dX0_rise_20 ?_
  refine g_iload 4 C rfl dX0_rise_23 ?_
  refine g_iald C 2 j (by decide) (fun _ => rfl) (by omega) (by omega) (by decide) dX0_rise_25 ?_
  refine g_aload_n 0 C rfl dX0_rise_26 rfl ?_
  refine gf_X0_9 C dX0_rise_27 ?_
  refine g_iload_n 3 C rfl dX0_rise_30 rfl ?_
  refine g_iald C 2 i (by decide) (fun _ => rfl) (by omega) (by omega) (by decide) dX0_rise_31 ?_
  refine g_isub C dX0_rise_32 ?_
  refine g_aload_n 2 C rfl dX0_rise_33 rfl ?_
  refine g_iload 5 C rfl dX0_rise_34 ?_
  refine g_iald C kb r (by omega) (EC_i7 (by omega)) (by omega) (by omega) (by decide) dX0_rise_36 ?_
  refine g_imul C dX0_rise_37 ?_
  refine g_iadd C dX0_rise_38 ?_
  refine g_i2l C dX0_rise_39 ((rs_bd hx ha hb (i := i) (j := j) (r := r) hi hj hr).1.I32 (by decide)) ?_
  refine g_lname (fun w1 ew1 => ?_)
  refine g_lstore (lv' := [(0, .ref (q 1)), (1, .ref (q ka)), (2, .ref (q kb)), (3, .int (iZ (i : Int))), (4, .int (iZ (j : Int))), (5, .int (iZ (r : Int))), (6, .long (lZ w1))]) [1, 2, 3, 4, 5, 6, 0] C dX0_rise_40 (by decide) rfl ?_
  refine g_aload_n 0 C rfl dX0_rise_42 rfl ?_
  refine gf_X0_9 C dX0_rise_43 ?_
  refine g_iload 5 C rfl dX0_rise_46 ?_
  refine g_iald C 2 r (by decide) (fun _ => rfl) (by omega) (by omega) (by decide) dX0_rise_48 ?_
  refine g_aload_n 0 C rfl dX0_rise_49 rfl ?_
  refine gf_X0_9 C dX0_rise_50 ?_
  refine g_iload_n 3 C rfl dX0_rise_53 rfl ?_
  refine g_iald C 2 i (by decide) (fun _ => rfl) (by omega) (by omega) (by decide) dX0_rise_54 ?_
  refine g_isub C dX0_rise_55 ?_
  refine g_aload_n 1 C rfl dX0_rise_56 rfl ?_
  refine g_iload 4 C rfl dX0_rise_57 ?_
  refine g_iald C ka j (by omega) (EC_i7 (by omega)) (by omega) (by omega) (by decide) dX0_rise_59 ?_
  refine g_imul C dX0_rise_60 ?_
  refine g_i2l C dX0_rise_61 ((rs_bd hx ha hb (i := i) (j := j) (r := r) hi hj hr).2.I32 (by decide)) ?_
  refine g_lload 6 C rfl dX0_rise_62 ?_
  refine g_lsub C dX0_rise_64 ?_
  refine g_lret (u := ()) C T dX0_rise_65 ?_
  refine ⟨_, rfl, ?_⟩
  subst ew1
  rfl
set_option maxHeartbeats 4000000 in
set_option maxRecDepth 20000 in
theorem c_X0_bend (g : Gx) {q : Nat → Nat} {σ : Nat → Nat → Int} {nn : Nat} (hn6 : nn ≤ 6) (hx : ∀ i, i ≤ nn → 0 ≤ σ 2 i ∧ σ 2 i ≤ 20) (hm : ∀ i, i ≤ nn → Bd (σ 6 i) 40000) {i j r : Nat} (hi : i ≤ nn) (hj : j ≤ nn) (hr : r ≤ nn) : MC g yX0_bend cX0_bend 4 ((some .long)) 1 27 (WC g q σ) [.ref (q 1), .int (iZ (i : Int)), .int (iZ (j : Int)), .int (iZ (r : Int))] (fun _ : Unit => WC g q σ) (pL (fun z _ => z = rs (σ 2) (σ 6) (σ 6) i j r)) := by
  refine MC_intro (own := RX0) rfl (by decide) (Nat.le_of_ble_eq_true rfl) (fun K C T => ?_)
  show GJ g K (WC g q σ) 0 [(0, .ref (q 1)), (1, .int (iZ (i : Int))), (2, .int (iZ (j : Int))), (3, .int (iZ (r : Int)))] []
  refine g_aload_n 0 C rfl dX0_bend_0 rfl ?_
  refine g_aload_n 0 C rfl dX0_bend_1 rfl ?_
  refine gf_X0_24 C dX0_bend_2 ?_
  refine g_aload_n 0 C rfl dX0_bend_5 rfl ?_
  refine gf_X0_24 C dX0_bend_6 ?_
  refine g_iload_n 1 C rfl dX0_bend_9 rfl ?_
  refine g_iload_n 2 C rfl dX0_bend_10 rfl ?_
  refine g_iload_n 3 C rfl dX0_bend_11 rfl ?_
  refine g_callL C (c_X0_rise g (σ := σ) hn6 hx (by decide) (by decide) hm hm hi hj hr) gv_X0_46 yd_X0_rise ⟨by decide, by decide⟩ 1 0 (WD_get (by decide)) rfl rfl (Nat.le_of_ble_eq_true rfl) dX0_bend_12 ?_
  rintro _ _ rfl
  refine g_lret (u := ()) C T dX0_bend_15 ?_
  exact ⟨_, rfl, rfl⟩
