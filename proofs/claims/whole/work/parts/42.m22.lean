def absZ (z : Int) : Int := if 0 < z then z else -z
theorem absZ_b {z A : Int} (h : Bd z A) : 0 ≤ absZ z ∧ absZ z ≤ A := by
  unfold absZ
  obtain ⟨h1, h2⟩ := h
  split <;> omega
/-- straight triples have the room that they need, at a by b -/
def Str (σ : Nat → Nat → Int) (cnt : Nat) (a b : Int) : Prop := ∀ e, 1 ≤ e → e ≤ cnt → σ 10 e = 0 → absZ (σ 8 e) * b ≤ σ 9 e * a
/-- no two bent ones bar each other, at a by b -/
def Bnt (σ : Nat → Nat → Int) (cnt : Nat) (a b : Int) : Prop := ∀ e f, e ≤ cnt → 0 < σ 10 e → 1 ≤ f → f ≤ cnt → 0 < σ 10 f → lst σ a b e * σ 10 f ≤ mst σ a b f * σ 10 e
theorem bnt_iff {σ : Nat → Nat → Int} {cnt : Nat} {a b : Int} {lo hi : Nat} (h1 : TL σ cnt a b lo) (h2 : TM σ cnt a b hi) : Bnt σ cnt a b ↔ ¬ ((hi : Int) ≠ 0 ∧ mst σ a b hi * σ 10 lo < lst σ a b lo * σ 10 hi) := by
  rcases h2 with ⟨rfl, h2⟩ | ⟨h2, h3, h4⟩
  · refine ⟨fun _ h => h.1 rfl, fun _ e f _ _ hf1 hf2 hf3 => absurd hf3 (h2 f hf1 hf2)⟩
  · refine ⟨fun h h5 => ?_, fun h e f he he2 hf1 hf2 hf3 => ?_⟩
    · have := h lo hi h1.1 h1.2.1 h2.1 h2.2 h3
      omega
    · have h5 : lst σ a b lo * σ 10 hi ≤ mst σ a b hi * σ 10 lo := by
        rcases (show lst σ a b lo * σ 10 hi ≤ mst σ a b hi * σ 10 lo ∨ mst σ a b hi * σ 10 lo < lst σ a b lo * σ 10 hi by omega) with h6 | h6
        · exact h6
        · exact absurd ⟨by omega, h6⟩ h
      have h6 := h1.2.2 e he he2
      have h7 := h4 f hf1 hf2 hf3
      have h8 := cr_le (a := mst σ a b hi) (x := σ 10 hi) (b := lst σ a b lo) (y := σ 10 lo) (c := lst σ a b e) (z := σ 10 e) h3 h1.2.1 he2 h5 h6
      exact cr_le (a := mst σ a b f) (x := σ 10 f) (b := mst σ a b hi) (y := σ 10 hi) (c := lst σ a b e) (z := σ 10 e) hf3 h3 he2 h7 h8
theorem PQ1 : PQ 1 1 := by unfold PQ; decide
set_option maxHeartbeats 4000000 in
set_option maxRecDepth 20000 in
theorem lp_X5_hold {g : Gx} {K : Kx} {q : Nat → Nat} {σ : Nat → Nat → Int} {cnt : Nat} (hT : TB σ cnt) (C : CX g K cX5_hold RX5 2 2 51) (T : RT g K (some .boolean) (fun _ : Unit => WC g q σ) (pI (fun z _ => z = bZ (Str σ cnt 1 1 ∧ Bnt σ cnt 1 1)))) : ∀ (d e : Nat), 1 ≤ e → e ≤ cnt + 1 → cnt + 1 < e + d → (∀ e', 1 ≤ e' → e' < e → σ 10 e' = 0 → absZ (σ 8 e') ≤ σ 9 e') → GJ g K (WC g q σ) 2 [(0, .ref (q 7)), (1, .int (iZ (e : Int)))] [] := by
  intro d
  induction d with
  | zero => intro e k0 k1 k2; omega
  | succ d ih =>
    intro e k0 k1 k2 hI
    have hc35 := hT.1
    refine g_iload_n 1 C rfl dX5_hold_2 rfl ?_
    refine g_aload_n 0 C rfl dX5_hold_3 rfl ?_
    refine gf_X5_29 C dX5_hold_4 ?_
    rw [show σ 7 1 = (cnt : Int) from hT.2.1]
    refine g_icmp_gt 48 C (by unfold I32; omega) (by unfold I32; omega) dX5_hold_7 (by decide) (fun h1 => ?_) (fun h1 => ?_)
    · refine g_aload_n 0 C rfl dX5_hold_48 rfl ?_
      refine g_aload_n 0 C rfl dX5_hold_49 rfl ?_
      refine g_lconst 1 C dX5_hold_50 (by decide) ?_
      refine g_lconst 1 C dX5_hold_51 (by decide) ?_
      refine g_callI C (c_X5_tightestLeast g (σ := σ) (cnt := cnt) hT (oa := 1) (ob := 1) PQ1) gv_X5_56 yd_X5_tightestLeast ⟨by decide, by decide⟩ 7 5 (WD_get (by decide)) rfl rfl (Nat.le_of_ble_eq_true rfl) dX5_hold_52 ?_
      rintro _ _ ⟨lo, rfl, hlo⟩
      refine g_aload_n 0 C rfl dX5_hold_55 rfl ?_
      refine g_lconst 1 C dX5_hold_56 (by decide) ?_
      refine g_lconst 1 C dX5_hold_57 (by decide) ?_
      refine g_callI C (c_X5_tightestMost g (σ := σ) (cnt := cnt) hT (oa := 1) (ob := 1) PQ1) gv_X5_60 yd_X5_tightestMost ⟨by decide, by decide⟩ 7 5 (WD_get (by decide)) rfl rfl (Nat.le_of_ble_eq_true rfl) dX5_hold_58 ?_
      rintro _ _ ⟨hi, rfl, hhi⟩
      refine g_lconst 1 C dX5_hold_61 (by decide) ?_
      refine g_lconst 1 C dX5_hold_62 (by decide) ?_
      have hBhi : hi ≤ cnt := by rcases hhi with h | h <;> omega
      refine g_callI C (c_X5_bars g (σ := σ) (cnt := cnt) hT (oa := 1) (ob := 1) PQ1 (lo := lo) (hi := hi) hlo.1 hBhi) gv_X5_63 yd_X5_bars ⟨by decide, by decide⟩ 7 5 (WD_get (by decide)) rfl rfl (Nat.le_of_ble_eq_true rfl) dX5_hold_63 ?_
      rintro _ _ rfl
      have hbn := bnt_iff hlo hhi
      refine g_bne 73 C dX5_hold_66 (by decide) (fun h2 => ?_) (fun h2 => ?_)
      · refine g_iconst C dX5_hold_73 ?_
        refine g_zret (u := ()) C T dX5_hold_74 (by omega) ?_
        exact ⟨_, rfl, (bZ_f (fun hh => hbn.mp hh.2 h2)).symm⟩
      · refine g_iconst C dX5_hold_69 ?_
        refine g_goto 74 C dX5_hold_70 (by decide) ?_
        refine g_zret (u := ()) C T dX5_hold_74 (by omega) ?_
        exact ⟨_, rfl, (bZ_t ⟨fun e' h7 h8 h9 => by have := hI e' h7 (by omega) h9; omega, hbn.mpr h2⟩).symm⟩
    · refine g_aload_n 0 C rfl dX5_hold_10 rfl ?_
      refine gf_X5_16 C dX5_hold_11 ?_
      refine g_iload_n 1 C rfl dX5_hold_14 rfl ?_
      refine g_lald C 10 e (by decide) (fun _ => rfl) (by omega) (by omega) (by decide) dX5_hold_15 ?_
      refine g_lconst 0 C dX5_hold_16 (by decide) ?_
      refine g_lcmp_ne 42 C (by have h9 := (hT.2.2.2.2.2 e (by omega)).1; unfold I64; omega) (by unfold I64; omega) dX5_hold_17 dX5_hold_18 (by decide) (fun h3 => ?_) (fun h3 => ?_)
      · refine g_iinc (lv' := [(0, .ref (q 7)), (1, .int (iZ ((e : Int) + 1)))]) 1 [1, 0] C rfl dX5_hold_42 (by decide) rfl ?_
        refine g_goto 2 C dX5_hold_45 (by decide) ?_
        refine ih (e + 1) (by omega) (by omega) (by omega) (fun e' h7 h8 h9 => ?_)
        by_cases he : e' = e
        · subst he; unfold absZ; omega
        · exact hI e' h7 (by omega) h9
      · refine g_aload_n 0 C rfl dX5_hold_21 rfl ?_
        refine gf_X5_9 C dX5_hold_22 ?_
        refine g_iload_n 1 C rfl dX5_hold_25 rfl ?_
        refine g_lald C 8 e (by decide) (fun _ => rfl) (by omega) (by omega) (by decide) dX5_hold_26 ?_
        refine g_labs C wm_X5_50 (by decide) (Nat.le_of_ble_eq_true rfl) ((hT.2.2.2.2.2 e (by omega)).2.1.I (by decide)) dX5_hold_27 ?_
        refine g_aload_n 0 C rfl dX5_hold_30 rfl ?_
        refine gf_X5_13 C dX5_hold_31 ?_
        refine g_iload_n 1 C rfl dX5_hold_34 rfl ?_
        refine g_lald C 9 e (by decide) (fun _ => rfl) (by omega) (by omega) (by decide) dX5_hold_35 ?_
        refine g_lcmp_le 42 C (by have h9 := absZ_b (hT.2.2.2.2.2 e (by omega)).2.1; unfold absZ at h9; unfold I64; omega) (by have h9 := (hT.2.2.2.2.2 e (by omega)).2.2; unfold I64; omega) dX5_hold_36 dX5_hold_37 (by decide) (fun h4 => ?_) (fun h4 => ?_)
        · refine g_iinc (lv' := [(0, .ref (q 7)), (1, .int (iZ ((e : Int) + 1)))]) 1 [1, 0] C rfl dX5_hold_42 (by decide) rfl ?_
          refine g_goto 2 C dX5_hold_45 (by decide) ?_
          refine ih (e + 1) (by omega) (by omega) (by omega) (fun e' h7 h8 h9 => ?_)
          by_cases he : e' = e
          · subst he; unfold absZ; omega
          · exact hI e' h7 (by omega) h9
        · refine g_iconst C dX5_hold_40 ?_
          refine g_zret (u := ()) C T dX5_hold_41 (by omega) ?_
          refine ⟨_, rfl, (bZ_f (fun hh => ?_)).symm⟩
          have h9 := hh.1 e (by omega) (by omega) (by omega)
          unfold absZ at h9
          omega
set_option maxHeartbeats 4000000 in
set_option maxRecDepth 20000 in
theorem c_X5_hold (g : Gx) {q : Nat → Nat} {σ : Nat → Nat → Int} {cnt : Nat} (hT : TB σ cnt) : MC g yX5_hold cX5_hold 2 ((some .boolean)) 2 51 (WC g q σ) [.ref (q 7)] (fun _ : Unit => WC g q σ) (pI (fun z _ => z = bZ (Str σ cnt 1 1 ∧ Bnt σ cnt 1 1))) := by
  refine MC_intro (own := RX5) rfl (by decide) (Nat.le_of_ble_eq_true rfl) (fun K C T => ?_)
  show GJ g K (WC g q σ) 0 [(0, .ref (q 7))] []
  refine g_iconst C dX5_hold_0 ?_
  refine g_istore_n (lv' := [(0, .ref (q 7)), (1, .int (iZ 1))]) [1, 0] C dX5_hold_1 rfl (by decide) rfl ?_
  exact lp_X5_hold hT C T (cnt + 1) 1 (by omega) (by omega) (by omega) (fun e' h7 h8 _ => absurd h8 (by omega))
set_option maxHeartbeats 4000000 in
set_option maxRecDepth 20000 in
theorem c_X5_greatestPush (g : Gx) {q : Nat → Nat} {σ : Nat → Nat → Int} {cnt : Nat} (hT : TB σ cnt) : MC g yX5_greatestPush cX5_greatestPush 3 ((some .boolean)) 2 52 (WC g q σ) [.ref (q 7), .ref (q 24)] (fun u => WC g q u) (pI (fun z u => ∃ k : Nat, TM σ cnt 1 1 k ∧ ((k = 0 ∧ z = bZ False ∧ u = σ) ∨ (k ≠ 0 ∧ z = bZ True ∧ u = redP σ 24 (σ 8 k + σ 9 k) (2 * σ 10 k))))) := by
  refine MC_intro (own := RX5) rfl (by decide) (Nat.le_of_ble_eq_true rfl) (fun K C T => ?_)
  show GJ g K (WC g q σ) 0 [(0, .ref (q 7)), (1, .ref (q 24))] []
  refine g_aload_n 0 C rfl dX5_greatestPush_0 rfl ?_
  refine g_lconst 1 C dX5_greatestPush_1 (by decide) ?_
  refine g_lconst 1 C dX5_greatestPush_2 (by decide) ?_
  refine g_callI C (c_X5_tightestMost g (σ := σ) (cnt := cnt) hT (oa := 1) (ob := 1) PQ1) gv_X5_60 yd_X5_tightestMost ⟨by decide, by decide⟩ 7 5 (WD_get (by decide)) rfl rfl (Nat.le_of_ble_eq_true rfl) dX5_greatestPush_3 ?_
  rintro _ _ ⟨hi, rfl, hhi⟩
  refine g_istore_n (lv' := [(0, .ref (q 7)), (1, .ref (q 24)), (2, .int (iZ (hi : Int)))]) [1, 2, 0] C dX5_greatestPush_6 rfl (by decide) rfl ?_
  refine g_iload_n 2 C rfl dX5_greatestPush_7 rfl ?_
  refine g_if_ne 13 C (by have := hT.1; rcases hhi with h | h <;> unfold I32 <;> omega) dX5_greatestPush_8 (by decide) (fun h1 => ?_) (fun h1 => ?_)
  · have hk : 1 ≤ hi ∧ hi ≤ cnt ∧ 0 < σ 10 hi := by
      rcases hhi with h | h <;> omega
    obtain ⟨⟨b1, b2⟩, b3, b4, b5⟩ := hT.2.2.2.2.2 hi hk.2.1
    have hc35 := hT.1
    obtain ⟨b6, b7⟩ := b3
    refine g_aload_n 1 C rfl dX5_greatestPush_13 rfl ?_
    refine g_aload_n 0 C rfl dX5_greatestPush_14 rfl ?_
    refine gf_X5_9 C dX5_greatestPush_15 ?_
    refine g_iload_n 2 C rfl dX5_greatestPush_18 rfl ?_
    refine g_lald C 8 hi (by decide) (fun _ => rfl) (by omega) (by omega) (by decide) dX5_greatestPush_19 ?_
    refine g_aload_n 0 C rfl dX5_greatestPush_20 rfl ?_
    refine gf_X5_13 C dX5_greatestPush_21 ?_
    refine g_iload_n 2 C rfl dX5_greatestPush_24 rfl ?_
    refine g_lald C 9 hi (by decide) (fun _ => rfl) (by omega) (by omega) (by decide) dX5_greatestPush_25 ?_
    refine g_ladd C dX5_greatestPush_26 ?_
    refine g_ldc2 2 C wk_X5_67 (by decide) dX5_greatestPush_27 ?_
    refine g_aload_n 0 C rfl dX5_greatestPush_30 rfl ?_
    refine gf_X5_16 C dX5_greatestPush_31 ?_
    refine g_iload_n 2 C rfl dX5_greatestPush_34 rfl ?_
    refine g_lald C 10 hi (by decide) (fun _ => rfl) (by omega) (by omega) (by decide) dX5_greatestPush_35 ?_
    refine g_lmul C dX5_greatestPush_36 ?_
    refine g_callV C (c_X2_become g (σ := σ) (c := 24) (Or.inl rfl) (A := (σ 8 hi) + (σ 9 hi)) (B := 2 * (σ 10 hi)) (by omega) (by omega) (by omega)) gv_X5_69 yd_X2_become ⟨by decide, by decide⟩ 24 2 (WD_get (by decide)) rfl rfl (Nat.le_of_ble_eq_true rfl) dX5_greatestPush_37 ?_
    rintro _ rfl
    refine g_iconst C dX5_greatestPush_40 ?_
    refine g_zret (u := (redP σ 24 ((σ 8 hi) + (σ 9 hi)) (2 * (σ 10 hi)))) C T dX5_greatestPush_41 (by omega) ?_
    exact ⟨_, rfl, hi, hhi, Or.inr ⟨by omega, (bZ_t trivial).symm, rfl⟩⟩
  · refine g_iconst C dX5_greatestPush_11 ?_
    refine g_zret (u := σ) C T dX5_greatestPush_12 (by omega) ?_
    refine ⟨_, rfl, hi, hhi, Or.inl ⟨by omega, (bZ_f id).symm, rfl⟩⟩
set_option maxHeartbeats 4000000 in
set_option maxRecDepth 20000 in
theorem c_X5_leastPush (g : Gx) {q : Nat → Nat} {σ : Nat → Nat → Int} {cnt : Nat} (hT : TB σ cnt) : MC g yX5_leastPush cX5_leastPush 3 ((some .boolean)) 2 52 (WC g q σ) [.ref (q 7), .ref (q 24)] (fun u => WC g q u) (pI (fun z u => ∃ k : Nat, TL σ cnt 1 1 k ∧ ((k = 0 ∧ z = bZ False ∧ u = σ) ∨ (k ≠ 0 ∧ z = bZ True ∧ u = redP σ 24 (σ 8 k - σ 9 k) (2 * σ 10 k))))) := by
  refine MC_intro (own := RX5) rfl (by decide) (Nat.le_of_ble_eq_true rfl) (fun K C T => ?_)
  show GJ g K (WC g q σ) 0 [(0, .ref (q 7)), (1, .ref (q 24))] []
  refine g_aload_n 0 C rfl dX5_leastPush_0 rfl ?_
  refine g_lconst 1 C dX5_leastPush_1 (by decide) ?_
  refine g_lconst 1 C dX5_leastPush_2 (by decide) ?_
  refine g_callI C (c_X5_tightestLeast g (σ := σ) (cnt := cnt) hT (oa := 1) (ob := 1) PQ1) gv_X5_56 yd_X5_tightestLeast ⟨by decide, by decide⟩ 7 5 (WD_get (by decide)) rfl rfl (Nat.le_of_ble_eq_true rfl) dX5_leastPush_3 ?_
  rintro _ _ ⟨lo, rfl, hlo⟩
  refine g_istore_n (lv' := [(0, .ref (q 7)), (1, .ref (q 24)), (2, .int (iZ (lo : Int)))]) [1, 2, 0] C dX5_leastPush_6 rfl (by decide) rfl ?_
  refine g_iload_n 2 C rfl dX5_leastPush_7 rfl ?_
  refine g_if_ne 13 C (by have := hT.1; have := hlo.1; unfold I32; omega) dX5_leastPush_8 (by decide) (fun h1 => ?_) (fun h1 => ?_)
  · have hk : 1 ≤ lo ∧ lo ≤ cnt ∧ 0 < σ 10 lo := by
      exact ⟨by omega, hlo.1, hlo.2.1⟩
    obtain ⟨⟨b1, b2⟩, b3, b4, b5⟩ := hT.2.2.2.2.2 lo hk.2.1
    have hc35 := hT.1
    obtain ⟨b6, b7⟩ := b3
    refine g_aload_n 1 C rfl dX5_leastPush_13 rfl ?_
    refine g_aload_n 0 C rfl dX5_leastPush_14 rfl ?_
    refine gf_X5_9 C dX5_leastPush_15 ?_
    refine g_iload_n 2 C rfl dX5_leastPush_18 rfl ?_
    refine g_lald C 8 lo (by decide) (fun _ => rfl) (by omega) (by omega) (by decide) dX5_leastPush_19 ?_
    refine g_aload_n 0 C rfl dX5_leastPush_20 rfl ?_
    refine gf_X5_13 C dX5_leastPush_21 ?_
    refine g_iload_n 2 C rfl dX5_leastPush_24 rfl ?_
    refine g_lald C 9 lo (by decide) (fun _ => rfl) (by omega) (by omega) (by decide) dX5_leastPush_25 ?_
    refine g_lsub C dX5_leastPush_26 ?_
    refine g_ldc2 2 C wk_X5_67 (by decide) dX5_leastPush_27 ?_
    refine g_aload_n 0 C rfl dX5_leastPush_30 rfl ?_
    refine gf_X5_16 C dX5_leastPush_31 ?_
    refine g_iload_n 2 C rfl dX5_leastPush_34 rfl ?_
    refine g_lald C 10 lo (by decide) (fun _ => rfl) (by omega) (by omega) (by decide) dX5_leastPush_35 ?_
    refine g_lmul C dX5_leastPush_36 ?_
    refine g_callV C (c_X2_become g (σ := σ) (c := 24) (Or.inl rfl) (A := (σ 8 lo) - (σ 9 lo)) (B := 2 * (σ 10 lo)) (by omega) (by omega) (by omega)) gv_X5_69 yd_X2_become ⟨by decide, by decide⟩ 24 2 (WD_get (by decide)) rfl rfl (Nat.le_of_ble_eq_true rfl) dX5_leastPush_37 ?_
    rintro _ rfl
    refine g_iconst C dX5_leastPush_40 ?_
    refine g_zret (u := (redP σ 24 ((σ 8 lo) - (σ 9 lo)) (2 * (σ 10 lo)))) C T dX5_leastPush_41 (by omega) ?_
    exact ⟨_, rfl, lo, hlo, Or.inr ⟨by omega, (bZ_t trivial).symm, rfl⟩⟩
  · refine g_iconst C dX5_leastPush_11 ?_
    refine g_zret (u := σ) C T dX5_leastPush_12 (by omega) ?_
    refine ⟨_, rfl, lo, hlo, Or.inl ⟨by omega, (bZ_f id).symm, rfl⟩⟩
