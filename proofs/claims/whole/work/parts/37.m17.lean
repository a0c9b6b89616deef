theorem ft_bd {σ : Nat → Nat → Int} {nr : Nat} {a b k d : Int} (hR : RBF σ nr) (ha : -20 ≤ a ∧ a ≤ 20) (hb : -20 ≤ b ∧ b ≤ 20) (hk : 0 ≤ k ∧ k ≤ 1000) (hd : 1 ≤ d ∧ d ≤ 1000) : ∀ r, r < nr → I64 (lin (up (up (up (up (up σ 9 0 (a * d)) 9 1 (b * d)) 9 2 k) 9 3 0) 0 11 d) r) ∧ I64 (rwf (up (up (up (up (up σ 9 0 (a * d)) 9 1 (b * d)) 9 2 k) 9 3 0) 0 11 d) r 4 * (up (up (up (up (up σ 9 0 (a * d)) 9 1 (b * d)) 9 2 k) 9 3 0) 0 11 d) 0 11) := by
  intro r hr
  obtain ⟨h0, h1, h2, h3, h4⟩ := hR r hr
  have hdB : Bd d 1000 := ⟨by omega, by omega⟩
  have q0 : Bd (a * d) 20000 := Bd.mul (A := 20) (B := 1000) ⟨by omega, by omega⟩ hdB
  have q1 : Bd (b * d) 20000 := Bd.mul (A := 20) (B := 1000) ⟨by omega, by omega⟩ hdB
  have q2 : Bd k 1000 := ⟨by omega, by omega⟩
  refine ⟨?_, (h4.mul hdB).I (by decide)⟩
  show I64 (rwf σ r 0 * (a * d) + rwf σ r 1 * (b * d) + rwf σ r 2 * k + rwf σ r 3 * 0)
  rw [Int.mul_zero, Int.add_zero]
  exact (((h0.mul q0).add (h1.mul q1)).add (h2.mul q2)).I (by decide)
theorem ft_core {σ σ1 : Nat → Nat → Int} {n : Nat} {x y z w d : Int} (h : rowsOK false σ σ1 n) : Core σ (up (up (up (up (up σ1 9 0 x) 9 1 y) 9 2 z) 9 3 w) 0 11 d) :=
  ⟨fun c h1 h7 => by rw [up_c (by omega), up_c (by omega), up_c (by omega), up_c (by omega), up_c (by omega)]; exact h.1.1 c (by omega) (by omega), h.1.2 0 (by decide)⟩
set_option maxHeartbeats 4000000 in
set_option maxRecDepth 20000 in
theorem c_X7_fits (g : Gx) {q : Nat → Nat} {σ : Nat → Nat → Int} {nn : Nat} (hA : AMb σ nn) {aa ba ka da : Int} (h_aa : I32 aa) (h_ba : I32 ba) (h_ka : I32 ka) (h_da : I32 da) : MC g yX7_fits cX7_fits 5 ((some .int)) 2 65 (WM g q σ) [.ref (q 0), .int (iZ aa), .int (iZ ba), .int (iZ ka), .int (iZ da)] (fun u => WM g q u) (pI (fun z u => Core σ u ∧ ((¬ ((-20 ≤ aa ∧ aa ≤ 20) ∧ (-20 ≤ ba ∧ ba ≤ 20) ∧ (0 ≤ ka ∧ ka ≤ 1000) ∧ (1 ≤ da ∧ da ≤ 1000)) ∧ z = -1) ∨ (((-20 ≤ aa ∧ aa ≤ 20) ∧ (-20 ≤ ba ∧ ba ≤ 20) ∧ (0 ≤ ka ∧ ka ≤ 1000) ∧ (1 ≤ da ∧ da ≤ 1000)) ∧ z = bZ (KpF (RFM σ nn) (2 * nn + 3) (aa * da) (ba * da) ka da))))) := by
  refine MC_intro (own := RX7) rfl (by decide) (Nat.le_of_ble_eq_true rfl) (fun K C T => ?_)
  show GJ g K (WM g q σ) 0 [(0, .ref (q 0)), (1, .int (iZ aa)), (2, .int (iZ ba)), (3, .int (iZ ka)), (4, .int (iZ da))] []
  refine g_iload_n 1 C rfl dX7_fits_0 rfl ?_
  refine g_i2l C dX7_fits_1 h_aa ?_
  refine g_ldc2 (-20) C wk_X7_65 (by decide) dX7_fits_2 ?_
  refine g_ldc2 20 C wk_X7_63 (by decide) dX7_fits_5 ?_
  refine g_callSI C (c_X7_in g (v := aa) (a := (-20)) (b := 20) (I64_32 h_aa) (by unfold I64; omega) (by unfold I64; omega)) gs_X7_59 yd_X7_in ⟨by decide, by decide⟩ rfl (Nat.le_of_ble_eq_true rfl) dX7_fits_8 ?_
  rintro _ rfl
  refine g_beq 53 C dX7_fits_11 (by decide) (fun h1 => ?_) (fun h1 => ?_)
  · refine g_iconst C dX7_fits_53 ?_
    refine g_iret (u := σ) C T dX7_fits_54 ?_
    exact ⟨_, rfl, Core.rf σ, Or.inl ⟨by omega, rfl⟩⟩
  · refine g_iload_n 2 C rfl dX7_fits_14 rfl ?_
    refine g_i2l C dX7_fits_15 h_ba ?_
    refine g_ldc2 (-20) C wk_X7_65 (by decide) dX7_fits_16 ?_
    refine g_ldc2 20 C wk_X7_63 (by decide) dX7_fits_19 ?_
    refine g_callSI C (c_X7_in g (v := ba) (a := (-20)) (b := 20) (I64_32 h_ba) (by unfold I64; omega) (by unfold I64; omega)) gs_X7_59 yd_X7_in ⟨by decide, by decide⟩ rfl (Nat.le_of_ble_eq_true rfl) dX7_fits_22 ?_
    rintro _ rfl
    refine g_beq 53 C dX7_fits_25 (by decide) (fun h2 => ?_) (fun h2 => ?_)
    · refine g_iconst C dX7_fits_53 ?_
      refine g_iret (u := σ) C T dX7_fits_54 ?_
      exact ⟨_, rfl, Core.rf σ, Or.inl ⟨by omega, rfl⟩⟩
    · refine g_iload_n 3 C rfl dX7_fits_28 rfl ?_
      refine g_i2l C dX7_fits_29 h_ka ?_
      refine g_lconst 0 C dX7_fits_30 (by decide) ?_
      refine g_ldc2 1000 C wk_X7_157 (by decide) dX7_fits_31 ?_
      refine g_callSI C (c_X7_in g (v := ka) (a := 0) (b := 1000) (I64_32 h_ka) (by unfold I64; omega) (by unfold I64; omega)) gs_X7_59 yd_X7_in ⟨by decide, by decide⟩ rfl (Nat.le_of_ble_eq_true rfl) dX7_fits_34 ?_
      rintro _ rfl
      refine g_beq 53 C dX7_fits_37 (by decide) (fun h3 => ?_) (fun h3 => ?_)
      · refine g_iconst C dX7_fits_53 ?_
        refine g_iret (u := σ) C T dX7_fits_54 ?_
        exact ⟨_, rfl, Core.rf σ, Or.inl ⟨by omega, rfl⟩⟩
      · refine g_iload 4 C rfl dX7_fits_40 ?_
        refine g_i2l C dX7_fits_42 h_da ?_
        refine g_lconst 1 C dX7_fits_43 (by decide) ?_
        refine g_ldc2 1000 C wk_X7_157 (by decide) dX7_fits_44 ?_
        refine g_callSI C (c_X7_in g (v := da) (a := 1) (b := 1000) (I64_32 h_da) (by unfold I64; omega) (by unfold I64; omega)) gs_X7_59 yd_X7_in ⟨by decide, by decide⟩ rfl (Nat.le_of_ble_eq_true rfl) dX7_fits_47 ?_
        rintro _ rfl
        refine g_bne 55 C dX7_fits_50 (by decide) (fun h4 => ?_) (fun h4 => ?_)
        · refine g_aload_n 0 C rfl dX7_fits_55 rfl ?_
          refine g_iconst C dX7_fits_56 ?_
          refine g_callV C (c_X7_findRowsF g (σ := σ) hA.1 hA.2.1 hA.2.2.1 hA.2.2.2.1 hA.2.2.2.2.1 (fun i hi => (hA.2.2.2.2.2 i hi).I32 (by decide))) gv_X7_110 yd_X7_findRows ⟨by decide, by decide⟩ 0 7 (WD_get (by decide)) rfl rfl (Nat.le_of_ble_eq_true rfl) dX7_fits_57 ?_
          intro σ1 hR1
          refine g_aload_n 0 C rfl dX7_fits_60 rfl ?_
          refine gf_X7_39 C dX7_fits_61 ?_
          refine g_iconst C dX7_fits_64 ?_
          refine g_iload_n 1 C rfl dX7_fits_65 rfl ?_
          refine g_i2l C dX7_fits_66 h_aa ?_
          refine g_iload 4 C rfl dX7_fits_67 ?_
          refine g_i2l C dX7_fits_69 h_da ?_
          refine g_lmul C dX7_fits_70 ?_
          refine g_last C 9 0 (by decide) (fun _ => rfl) (by omega) (by omega) (by decide) dX7_fits_71 ?_
          refine g_aload_n 0 C rfl dX7_fits_72 rfl ?_
          refine gf_X7_39 C dX7_fits_73 ?_
          refine g_iconst C dX7_fits_76 ?_
          refine g_iload_n 2 C rfl dX7_fits_77 rfl ?_
          refine g_i2l C dX7_fits_78 h_ba ?_
          refine g_iload 4 C rfl dX7_fits_79 ?_
          refine g_i2l C dX7_fits_81 h_da ?_
          refine g_lmul C dX7_fits_82 ?_
          refine g_last C 9 1 (by decide) (fun _ => rfl) (by omega) (by omega) (by decide) dX7_fits_83 ?_
          refine g_aload_n 0 C rfl dX7_fits_84 rfl ?_
          refine gf_X7_39 C dX7_fits_85 ?_
          refine g_iconst C dX7_fits_88 ?_
          refine g_iload_n 3 C rfl dX7_fits_89 rfl ?_
          refine g_i2l C dX7_fits_90 h_ka ?_
          refine g_last C 9 2 (by decide) (fun _ => rfl) (by omega) (by omega) (by decide) dX7_fits_91 ?_
          refine g_aload_n 0 C rfl dX7_fits_92 rfl ?_
          refine gf_X7_39 C dX7_fits_93 ?_
          refine g_iconst C dX7_fits_96 ?_
          refine g_lconst 0 C dX7_fits_97 (by decide) ?_
          refine g_last C 9 3 (by decide) (fun _ => rfl) (by omega) (by omega) (by decide) dX7_fits_98 ?_
          refine g_aload_n 0 C rfl dX7_fits_99 rfl ?_
          refine g_iload 4 C rfl dX7_fits_100 ?_
          refine g_i2l C dX7_fits_102 h_da ?_
          refine pf_X7_91 C dX7_fits_103 ?_
          refine g_aload_n 0 C rfl dX7_fits_106 rfl ?_
          have hB := ft_bd (rbf_of hA hR1) (a := aa) (b := ba) (k := ka) (d := da) (by omega) (by omega) (by omega) (by omega)
          refine g_callI C (c_X7_keepsAll g (σ := (up (up (up (up (up σ1 9 0 (aa * da)) 9 1 (ba * da)) 9 2 ka) 9 3 0) 0 11 da)) (nr := 2 * nn + 3) (by show σ1 0 9 = _; rw [hR1.2.2.2.2]; simp; try omega) (by have := hA.2.2.1; omega) hB) gv_X7_102 yd_X7_keepsAll ⟨by decide, by decide⟩ 0 7 (WD_get (by decide)) rfl rfl (Nat.le_of_ble_eq_true rfl) dX7_fits_107 ?_
          rintro _ _ rfl
          rw [keeps_F (σ := σ1) (rbf_of hA hR1) (u := (up (up (up (up (up σ1 9 0 (aa * da)) 9 1 (ba * da)) 9 2 ka) 9 3 0) 0 11 da)) rfl]
          rw [show KpF (rwf σ1) (2 * nn + 3) ((up (up (up (up (up σ1 9 0 (aa * da)) 9 1 (ba * da)) 9 2 ka) 9 3 0) 0 11 da) 9 0) ((up (up (up (up (up σ1 9 0 (aa * da)) 9 1 (ba * da)) 9 2 ka) 9 3 0) 0 11 da) 9 1) ((up (up (up (up (up σ1 9 0 (aa * da)) 9 1 (ba * da)) 9 2 ka) 9 3 0) 0 11 da) 9 2) ((up (up (up (up (up σ1 9 0 (aa * da)) 9 1 (ba * da)) 9 2 ka) 9 3 0) 0 11 da) 0 11) = KpF (RFM σ nn) (2 * nn + 3) (aa * da) (ba * da) ka da from propext (KpF_cg (rows_RF hR1))]
          refine g_beq 117 C dX7_fits_110 (by decide) (fun h5 => ?_) (fun h5 => ?_)
          · refine g_iconst C dX7_fits_117 ?_
            refine g_iret (u := (up (up (up (up (up σ1 9 0 (aa * da)) 9 1 (ba * da)) 9 2 ka) 9 3 0) 0 11 da)) C T dX7_fits_118 ?_
            exact ⟨_, rfl, ft_core hR1, Or.inr ⟨by omega, (bZ_f h5).symm⟩⟩
          · refine g_iconst C dX7_fits_113 ?_
            refine g_goto 118 C dX7_fits_114 (by decide) ?_
            refine g_iret (u := (up (up (up (up (up σ1 9 0 (aa * da)) 9 1 (ba * da)) 9 2 ka) 9 3 0) 0 11 da)) C T dX7_fits_118 ?_
            exact ⟨_, rfl, ft_core hR1, Or.inr ⟨by omega, (bZ_t h5).symm⟩⟩
        · refine g_iconst C dX7_fits_53 ?_
          refine g_iret (u := σ) C T dX7_fits_54 ?_
          exact ⟨_, rfl, Core.rf σ, Or.inl ⟨by omega, rfl⟩⟩
/-- the loads of a step of building -/
def laidW (n s : Nat) (w : Nat → Int) : Nat → Int := fun i => if 1 ≤ i ∧ i < n then (if i ≤ s ∨ n ≤ i + s then w i else 0) else w i
abbrev laid (σ : Nat → Nat → Int) (n s : Nat) : Nat → Nat → Int := upf σ 4 (laidW n s (σ 4))
def StS (σ : Nat → Nat → Int) (n : Nat) (v : Int) : Prop := ∃ u, LN σ n u ∧ u 0 12 = v
def FlM (σ : Nat → Nat → Int) (n : Nat) (z : Int) : Prop := (∃ s : Nat, s ≤ n / 2 ∧ (∀ s', s' < s → StS (laid σ n s') n 1) ∧ StS (laid σ n s) n 0 ∧ z = (s : Int)) ∨ ((∀ s, s ≤ n / 2 → StS (laid σ n s) n 1) ∧ z = -4)
/-- all but the loads, the kept loads and what findLines works out -/
def FrW (σ u : Nat → Nat → Int) : Prop := (∀ c, c ≠ 0 → c ≠ 4 → c ≠ 8 → c ≠ 9 → c ≠ 10 → c ≠ 12 → u c = σ c) ∧ u 0 0 = σ 0 0
theorem LN_cg {σ σ' u : Nat → Nat → Int} {n : Nat} (h1 : σ' 1 = σ 1) (h2 : σ' 2 = σ 2) (h3 : σ' 3 = σ 3) (h4 : σ' 4 = σ 4) (h : LN σ' n u) : LN σ n u := by
  unfold LN at *
  rw [RFM_cg h1 h2 h3 h4] at h
  exact h
set_option maxHeartbeats 4000000 in
set_option maxRecDepth 20000 in
theorem fa4_X7 {g : Gx} {K : Kx} {q : Nat → Nat} {σ : Nat → Nat → Int} {nn : Nat} (hn : σ 0 0 = (nn : Int)) (hn2 : 2 ≤ nn) (hn6 : nn ≤ 6) (hA : ∀ s, AMb (laid σ nn s) nn) {l1 l2 : Int} (C : CX g K cX7_falls RX7 5 4 123) (T : RT g K (some .int) (fun u => WM g q u) (pI (fun z u => Core σ u ∧ FlM σ nn z))) (hz : FlM σ nn l2) : ∀ (d i : Nat), i ≤ nn + 1 → nn + 1 < i + d → ∀ τ : Nat → Nat → Int, FrW σ τ → (∀ j, j ≤ nn → τ 12 j = σ 4 j) → (∀ j, j < i ∨ nn < j → τ 4 j = σ 4 j) → GJ g K (WM g q τ) 130 [(0, .ref (q 0)), (1, .int (iZ l1)), (2, .int (iZ l2)), (3, .int (iZ (i : Int)))] [] := by
  intro d
  induction d with
  | zero => intro i k1 k2; omega
  | succ d ih =>
    intro i k1 k2 τ hF hk hI
    refine g_iload_n 3 C rfl dX7_falls_130 rfl ?_
    refine g_aload_n 0 C rfl dX7_falls_131 rfl ?_
    refine gf_X7_7 C dX7_falls_132 ?_
    rw [show τ 0 0 = (nn : Int) from (hF.2.trans hn)]
    refine g_icmp_gt 156 C (by unfold I32; omega) (by unfold I32; omega) dX7_falls_135 (by decide) (fun h1 => ?_) (fun h1 => ?_)
    · refine g_iload_n 2 C rfl dX7_falls_156 rfl ?_
      refine g_iret (u := τ) C T dX7_falls_157 ?_
      refine ⟨_, rfl, ⟨fun c h1 h7 => ?_, hF.2⟩, hz⟩
      by_cases h4 : c = 4
      · subst h4; funext j; exact hI j (by omega)
      · exact hF.1 c (by omega) h4 (by omega) (by omega) (by omega) (by omega)
    · refine g_aload_n 0 C rfl dX7_falls_138 rfl ?_
      refine gf_X7_23 C dX7_falls_139 ?_
      refine g_iload_n 3 C rfl dX7_falls_142 rfl ?_
      refine g_aload_n 0 C rfl dX7_falls_143 rfl ?_
      refine gf_X7_48 C dX7_falls_144 ?_
      refine g_iload_n 3 C rfl dX7_falls_147 rfl ?_
      refine g_iald C 12 i (by decide) (fun _ => rfl) (by omega) (by omega) (by decide) dX7_falls_148 ?_
      refine g_iast C 4 i (by decide) (fun _ => rfl) (by omega) (by omega) (by decide) dX7_falls_149 ?_
      refine g_iinc (lv' := [(0, .ref (q 0)), (1, .int (iZ l1)), (2, .int (iZ l2)), (3, .int (iZ ((i : Int) + 1)))]) 3 [1, 2, 3, 0] C rfl dX7_falls_150 (by decide) rfl ?_
      refine g_goto 130 C dX7_falls_153 (by decide) ?_
      refine ih (i + 1) (by omega) (by omega) _ ⟨fun c h0 h4 h8 h9 h10 h12 => by rw [up_c h4]; exact hF.1 c h0 h4 h8 h9 h10 h12, hF.2⟩ (fun j hj => by rw [up_c (by decide)]; exact hk j hj) (fun j hj => ?_)
      by_cases he : j = i
      · subst he; rw [up_s]; exact hk j (by omega)
      · rw [up_k he]; exact hI j (by omega)
set_option maxHeartbeats 4000000 in
set_option maxRecDepth 20000 in
theorem fa2_X7 {g : Gx} {K : Kx} {q : Nat → Nat} {σ : Nat → Nat → Int} {nn : Nat} (hn : σ 0 0 = (nn : Int)) (hn2 : 2 ≤ nn) (hn6 : nn ≤ 6) (hA : ∀ s, AMb (laid σ nn s) nn) {l1 l2 : Int} {s : Nat} (hs : s ≤ 3) (C : CX g K cX7_falls RX7 5 4 123) (hk : ∀ τ : Nat → Nat → Int, FrW σ τ → (∀ j, j ≤ nn → τ 12 j = σ 4 j) → (∀ j, τ 4 j = laidW nn s (σ 4) j) → GJ g K (WM g q τ) 104 [(0, .ref (q 0)), (1, .int (iZ l1)), (2, .int (iZ l2)), (3, .int (iZ (s : Int))), (4, .int (iZ (nn : Int)))] []) : ∀ (d i : Nat), 1 ≤ i → i ≤ nn → nn < i + d → ∀ τ : Nat → Nat → Int, FrW σ τ → (∀ j, j ≤ nn → τ 12 j = σ 4 j) → (∀ j, j < i ∨ nn ≤ j → τ 4 j = laidW nn s (σ 4) j) → GJ g K (WM g q τ) 54 [(0, .ref (q 0)), (1, .int (iZ l1)), (2, .int (iZ l2)), (3, .int (iZ (s : Int))), (4, .int (iZ (i : Int)))] [] := by
  intro d
  induction d with
  | zero => intro i k0 k1 k2; omega
  | succ d ih =>
    intro i k0 k1 k2 τ hF hq hI
    refine g_iload 4 C rfl dX7_falls_54 ?_
    refine g_aload_n 0 C rfl dX7_falls_56 rfl ?_
    refine gf_X7_7 C dX7_falls_57 ?_
    rw [show τ 0 0 = (nn : Int) from (hF.2.trans hn)]
    refine g_icmp_ge 104 C (by unfold I32; omega) (by unfold I32; omega) dX7_falls_60 (by decide) (fun h1 => ?_) (fun h1 => ?_)
    · obtain rfl : i = nn := by omega
      exact hk τ hF hq (fun j => hI j (by omega))
    · refine g_aload_n 0 C rfl dX7_falls_63 rfl ?_
      refine gf_X7_23 C dX7_falls_64 ?_
      refine g_iload 4 C rfl dX7_falls_67 ?_
      refine g_iload 4 C rfl dX7_falls_69 ?_
      refine g_iload_n 3 C rfl dX7_falls_71 rfl ?_
      refine g_icmp_le 86 C (by unfold I32; omega) (by unfold I32; omega) dX7_falls_72 (by decide) (fun h2 => ?_) (fun h2 => ?_)
      · refine g_aload_n 0 C rfl dX7_falls_86 rfl ?_
        refine gf_X7_48 C dX7_falls_87 ?_
        refine g_iload 4 C rfl dX7_falls_90 ?_
        refine g_iald C 12 i (by decide) (fun _ => rfl) (by omega) (by omega) (by decide) dX7_falls_92 ?_
        rw [show τ 12 i = σ 4 i from hq i (by omega)]
        refine g_goto 97 C dX7_falls_93 (by decide) ?_
        refine g_iast C 4 i (by decide) (fun _ => rfl) (by omega) (by omega) (by decide) dX7_falls_97 ?_
        refine g_iinc (lv' := [(0, .ref (q 0)), (1, .int (iZ l1)), (2, .int (iZ l2)), (3, .int (iZ (s : Int))), (4, .int (iZ ((i : Int) + 1)))]) 4 [1, 2, 3, 4, 0] C rfl dX7_falls_98 (by decide) rfl ?_
        refine g_goto 54 C dX7_falls_101 (by decide) ?_
        refine ih (i + 1) (by omega) (by omega) (by omega) _ ⟨fun c h0 h4 h8 h9 h10 h12 => by rw [up_c h4]; exact hF.1 c h0 h4 h8 h9 h10 h12, hF.2⟩ (fun j hj => by rw [up_c (by decide)]; exact hq j hj) (fun j hj => ?_)
        by_cases he : j = i
        · subst he; rw [up_s]; unfold laidW; rw [if_pos (by omega)]
          first | rw [if_pos (by omega)] | rw [if_neg (by omega)]
        · rw [up_k he]; exact hI j (by omega)
      · refine g_iload 4 C rfl dX7_falls_75 ?_
        refine g_aload_n 0 C rfl dX7_falls_77 rfl ?_
        refine gf_X7_7 C dX7_falls_78 ?_
        rw [show τ 0 0 = (nn : Int) from (hF.2.trans hn)]
        refine g_iload_n 3 C rfl dX7_falls_81 rfl ?_
        refine g_isub C dX7_falls_82 ?_
        refine g_icmp_lt 96 C (by unfold I32; omega) (by unfold I32; omega) dX7_falls_83 (by decide) (fun h3 => ?_) (fun h3 => ?_)
        · refine g_iconst C dX7_falls_96 ?_
          refine g_iast C 4 i (by decide) (fun _ => rfl) (by omega) (by omega) (by decide) dX7_falls_97 ?_
          refine g_iinc (lv' := [(0, .ref (q 0)), (1, .int (iZ l1)), (2, .int (iZ l2)), (3, .int (iZ (s : Int))), (4, .int (iZ ((i : Int) + 1)))]) 4 [1, 2, 3, 4, 0] C rfl dX7_falls_98 (by decide) rfl ?_
          refine g_goto 54 C dX7_falls_101 (by decide) ?_
          refine ih (i + 1) (by omega) (by omega) (by omega) _ ⟨fun c h0 h4 h8 h9 h10 h12 => by rw [up_c h4]; exact hF.1 c h0 h4 h8 h9 h10 h12, hF.2⟩ (fun j hj => by rw [up_c (by decide)]; exact hq j hj) (fun j hj => ?_)
          by_cases he : j = i
          · subst he; rw [up_s]; unfold laidW; rw [if_pos (by omega)]
            first | rw [if_pos (by omega)] | rw [if_neg (by omega)]
          · rw [up_k he]; exact hI j (by omega)
        · refine g_aload_n 0 C rfl dX7_falls_86 rfl ?_
          refine gf_X7_48 C dX7_falls_87 ?_
          refine g_iload 4 C rfl dX7_falls_90 ?_
          refine g_iald C 12 i (by decide) (fun _ => rfl) (by omega) (by omega) (by decide) dX7_falls_92 ?_
          rw [show τ 12 i = σ 4 i from hq i (by omega)]
          refine g_goto 97 C dX7_falls_93 (by decide) ?_
          refine g_iast C 4 i (by decide) (fun _ => rfl) (by omega) (by omega) (by decide) dX7_falls_97 ?_
          refine g_iinc (lv' := [(0, .ref (q 0)), (1, .int (iZ l1)), (2, .int (iZ l2)), (3, .int (iZ (s : Int))), (4, .int (iZ ((i : Int) + 1)))]) 4 [1, 2, 3, 4, 0] C rfl dX7_falls_98 (by decide) rfl ?_
          refine g_goto 54 C dX7_falls_101 (by decide) ?_
          refine ih (i + 1) (by omega) (by omega) (by omega) _ ⟨fun c h0 h4 h8 h9 h10 h12 => by rw [up_c h4]; exact hF.1 c h0 h4 h8 h9 h10 h12, hF.2⟩ (fun j hj => by rw [up_c (by decide)]; exact hq j hj) (fun j hj => ?_)
          by_cases he : j = i
          · subst he; rw [up_s]; unfold laidW; rw [if_pos (by omega)]
            first | rw [if_pos (by omega)] | rw [if_neg (by omega)]
          · rw [up_k he]; exact hI j (by omega)
set_option maxHeartbeats 4000000 in
set_option maxRecDepth 20000 in
theorem fa3_X7 {g : Gx} {K : Kx} {q : Nat → Nat} {σ : Nat → Nat → Int} {nn : Nat} (hn : σ 0 0 = (nn : Int)) (hn2 : 2 ≤ nn) (hn6 : nn ≤ 6) (hA : ∀ s, AMb (laid σ nn s) nn) {l1 : Int} (hl1 : l1 = ((nn / 2 : Nat) : Int)) (C : CX g K cX7_falls RX7 5 4 123) (T : RT g K (some .int) (fun u => WM g q u) (pI (fun z u => Core σ u ∧ FlM σ nn z))) : ∀ (d s : Nat), s ≤ nn / 2 + 1 → nn / 2 + 1 < s + d → ∀ l2 : Int, ((l2 = -4 ∧ ∀ s', s' < s → StS (laid σ nn s') nn 1) ∨ (FlM σ nn l2 ∧ l2 ≠ -4 ∧ I32 l2)) → ∀ τ : Nat → Nat → Int, FrW σ τ → (∀ j, j ≤ nn → τ 12 j = σ 4 j) → (∀ j, (j = 0 ∨ nn ≤ j) → τ 4 j = σ 4 j) → GJ g K (WM g q τ) 40 [(0, .ref (q 0)), (1, .int (iZ l1)), (2, .int (iZ l2)), (3, .int (iZ (s : Int)))] [] := by
  intro d
  induction d with
  | zero => intro s k1 k2; omega
  | succ d ih =>
    intro s k1 k2 l2 hz τ hF hq hw
    refine g_iload_n 3 C rfl dX7_falls_40 rfl ?_
    refine g_iload_n 1 C rfl dX7_falls_41 rfl ?_
    refine g_icmp_gt 128 C (by unfold I32; omega) (by unfold I32; omega) dX7_falls_42 (by decide) (fun h1 => ?_) (fun h1 => ?_)
    · refine g_iconst C dX7_falls_128 ?_
      refine g_istore_n (lv' := [(0, .ref (q 0)), (1, .int (iZ l1)), (2, .int (iZ l2)), (3, .int (iZ 0))]) [1, 2, 3, 0] C dX7_falls_129 rfl (by decide) rfl ?_
      have hz2 : FlM σ nn l2 := by
        rcases hz with ⟨h, h2⟩ | h
        · exact Or.inr ⟨fun s9 h9 => h2 s9 (by omega), h⟩
        · exact h.1
      exact fa4_X7 hn hn2 hn6 hA C T hz2 (nn + 2) 0 (by omega) (by omega) τ hF hq (fun j hj => hw j (by omega))
    · refine g_iload_n 2 C rfl dX7_falls_45 rfl ?_
      refine g_bipush C dX7_falls_46 (by decide) ?_
      refine g_icmp_ne 128 C (by rcases hz with h | h <;> first | exact h.2.2 | (unfold I32; omega)) (by unfold I32; omega) dX7_falls_48 (by decide) (fun h2 => ?_) (fun h2 => ?_)
      · refine g_iconst C dX7_falls_128 ?_
        refine g_istore_n (lv' := [(0, .ref (q 0)), (1, .int (iZ l1)), (2, .int (iZ l2)), (3, .int (iZ 0))]) [1, 2, 3, 0] C dX7_falls_129 rfl (by decide) rfl ?_
        have hz2 : FlM σ nn l2 := by
          rcases hz with ⟨h, h2⟩ | h
          · exact Or.inr ⟨fun s9 h9 => h2 s9 (by omega), h⟩
          · exact h.1
        exact fa4_X7 hn hn2 hn6 hA C T hz2 (nn + 2) 0 (by omega) (by omega) τ hF hq (fun j hj => hw j (by omega))
      · refine g_iconst C dX7_falls_51 ?_
        refine g_istore (lv' := [(0, .ref (q 0)), (1, .int (iZ l1)), (2, .int (iZ l2)), (3, .int (iZ (s : Int))), (4, .int (iZ 1))]) [1, 2, 3, 4, 0] C dX7_falls_52 (by decide) rfl ?_
        refine fa2_X7 hn hn2 hn6 hA (s := s) (by omega) C (fun τ2 hF2 hq2 hw2 => ?_) nn 1 (by omega) (by omega) (by omega) τ hF hq (fun j hj => by rw [hw j (by omega)]; unfold laidW; rw [if_neg (by omega)])
        refine g_aload_n 0 C rfl dX7_falls_104 rfl ?_
        have c4 : τ2 4 = (laid σ nn s) 4 := funext hw2
        have cc : ∀ c, 1 ≤ c → c ≤ 3 → τ2 c = (laid σ nn s) c := fun c h1 h3 => (hF2.1 c (by omega) (by omega) (by omega) (by omega) (by omega) (by omega)).trans (by unfold laid upf; rw [if_neg (by omega)])
        refine g_callV C (c_X7_findLines g (σ := τ2) (nn := nn) ((hA s).cg hF2.2 (cc 1 (by decide) (by decide)) (cc 2 (by decide) (by decide)) (cc 3 (by decide) (by decide)) c4)) gv_X7_141 yd_X7_findLines ⟨by decide, by decide⟩ 0 7 (WD_get (by decide)) rfl rfl (Nat.le_of_ble_eq_true rfl) dX7_falls_105 ?_
        rintro u1 ⟨hF1, hI1⟩
        have hI2 := LN_cg (cc 1 (by decide) (by decide)) (cc 2 (by decide) (by decide)) (cc 3 (by decide) (by decide)) c4 hI1
        have hF3 : FrW σ u1 := ⟨fun c h0 h4 h8 h9 h10 h12 => (hF1.1 c h0 h8 h9 h10).trans (hF2.1 c h0 h4 h8 h9 h10 h12), hF1.2.trans hF2.2⟩
        have hq3 : ∀ j, j ≤ nn → u1 12 j = σ 4 j := fun j hj => by rw [hF1.1 12 (by decide) (by decide) (by decide) (by decide)]; exact hq2 j hj
        have hw3 : ∀ j, (j = 0 ∨ nn ≤ j) → u1 4 j = σ 4 j := fun j hj => by rw [hF1.1 4 (by decide) (by decide) (by decide) (by decide), hw2 j]; unfold laidW; rw [if_neg (by omega)]
        refine g_aload_n 0 C rfl dX7_falls_108 rfl ?_
        refine gf_X7_114 C dX7_falls_109 ?_
        refine g_if_eq 120 C (by rcases hI2.1 with h | h <;> unfold I32 <;> omega) dX7_falls_112 (by decide) (fun h51 => ?_) (fun h51 => ?_)
        · refine g_iload_n 3 C rfl dX7_falls_120 rfl ?_
          refine g_istore_n (lv' := [(0, .ref (q 0)), (1, .int (iZ l1)), (2, .int (iZ (s : Int))), (3, .int (iZ (s : Int))), (4, .int (iZ (nn : Int)))]) [1, 2, 0, 3, 4] C dX7_falls_121 rfl (by decide) rfl ?_
          refine g_iinc (lv' := [(0, .ref (q 0)), (1, .int (iZ l1)), (2, .int (iZ (s : Int))), (3, .int (iZ ((s : Int) + 1))), (4, .int (iZ (nn : Int)))]) 3 [1, 2, 3, 0, 4] C rfl dX7_falls_122 (by decide) rfl ?_
          refine g_goto 40 C dX7_falls_125 (by decide) ?_
          refine g_lv [0, 1, 2, 3] rfl ?_
          exact ih (s + 1) (by omega) (by omega) (s : Int) (Or.inr ⟨Or.inl ⟨s, by omega, (hz.resolve_right (fun h => h.2.1 (by omega))).2, ⟨u1, hI2, by omega⟩, rfl⟩, by omega, by unfold I32; omega⟩) u1 hF3 hq3 hw3
        · refine g_bipush C dX7_falls_115 (by decide) ?_
          refine g_goto 121 C dX7_falls_117 (by decide) ?_
          refine g_istore_n (lv' := [(0, .ref (q 0)), (1, .int (iZ l1)), (2, .int (iZ (-4))), (3, .int (iZ (s : Int))), (4, .int (iZ (nn : Int)))]) [1, 2, 0, 3, 4] C dX7_falls_121 rfl (by decide) rfl ?_
          refine g_iinc (lv' := [(0, .ref (q 0)), (1, .int (iZ l1)), (2, .int (iZ (-4))), (3, .int (iZ ((s : Int) + 1))), (4, .int (iZ (nn : Int)))]) 3 [1, 2, 3, 0, 4] C rfl dX7_falls_122 (by decide) rfl ?_
          refine g_goto 40 C dX7_falls_125 (by decide) ?_
          refine g_lv [0, 1, 2, 3] rfl ?_
          refine ih (s + 1) (by omega) (by omega) (-4) (Or.inl ⟨rfl, fun s' h9 => ?_⟩) u1 hF3 hq3 hw3
          rcases Nat.lt_or_ge s' s with h8 | h8
          · exact (hz.resolve_right (fun h => h.2.1 (by omega))).2 s' h8
          · obtain rfl : s' = s := by omega
            exact ⟨u1, hI2, by rcases hI2.1 with h | h <;> omega⟩
set_option maxHeartbeats 4000000 in
set_option maxRecDepth 20000 in
theorem fa1_X7 {g : Gx} {K : Kx} {q : Nat → Nat} {σ : Nat → Nat → Int} {nn : Nat} (hn : σ 0 0 = (nn : Int)) (hn2 : 2 ≤ nn) (hn6 : nn ≤ 6) (hA : ∀ s, AMb (laid σ nn s) nn) {l1 : Int} (hl1 : l1 = ((nn / 2 : Nat) : Int)) (C : CX g K cX7_falls RX7 5 4 123) (T : RT g K (some .int) (fun u => WM g q u) (pI (fun z u => Core σ u ∧ FlM σ nn z))) : ∀ (d i : Nat), i ≤ nn + 1 → nn + 1 < i + d → ∀ τ : Nat → Nat → Int, FrW σ τ → (∀ j, j < i → τ 12 j = σ 4 j) → τ 4 = σ 4 → GJ g K (WM g q τ) 12 [(0, .ref (q 0)), (1, .int (iZ l1)), (2, .int (iZ (-4))), (3, .int (iZ (i : Int)))] [] := by
  intro d
  induction d with
  | zero => intro i k1 k2; omega
  | succ d ih =>
    intro i k1 k2 τ hF hq hw
    refine g_iload_n 3 C rfl dX7_falls_12 rfl ?_
    refine g_aload_n 0 C rfl dX7_falls_13 rfl ?_
    refine gf_X7_7 C dX7_falls_14 ?_
    rw [show τ 0 0 = (nn : Int) from (hF.2.trans hn)]
    refine g_icmp_gt 38 C (by unfold I32; omega) (by unfold I32; omega) dX7_falls_17 (by decide) (fun h1 => ?_) (fun h1 => ?_)
    · refine g_iconst C dX7_falls_38 ?_
      refine g_istore_n (lv' := [(0, .ref (q 0)), (1, .int (iZ l1)), (2, .int (iZ (-4))), (3, .int (iZ 0))]) [1, 2, 3, 0] C dX7_falls_39 rfl (by decide) rfl ?_
      exact fa3_X7 hn hn2 hn6 hA hl1 C T (nn / 2 + 2) 0 (by omega) (by omega) (-4) (Or.inl ⟨rfl, fun s' h9 => absurd h9 (by omega)⟩) τ hF (fun j hj => hq j (by omega)) (fun j _ => by rw [hw])
    · refine g_aload_n 0 C rfl dX7_falls_20 rfl ?_
      refine gf_X7_48 C dX7_falls_21 ?_
      refine g_iload_n 3 C rfl dX7_falls_24 rfl ?_
      refine g_aload_n 0 C rfl dX7_falls_25 rfl ?_
      refine gf_X7_23 C dX7_falls_26 ?_
      refine g_iload_n 3 C rfl dX7_falls_29 rfl ?_
      refine g_iald C 4 i (by decide) (fun _ => rfl) (by omega) (by omega) (by decide) dX7_falls_30 ?_
      rw [show τ 4 i = σ 4 i from congrFun hw _]
      refine g_iast C 12 i (by decide) (fun _ => rfl) (by omega) (by omega) (by decide) dX7_falls_31 ?_
      refine g_iinc (lv' := [(0, .ref (q 0)), (1, .int (iZ l1)), (2, .int (iZ (-4))), (3, .int (iZ ((i : Int) + 1)))]) 3 [1, 2, 3, 0] C rfl dX7_falls_32 (by decide) rfl ?_
      refine g_goto 12 C dX7_falls_35 (by decide) ?_
      refine ih (i + 1) (by omega) (by omega) _ ⟨fun c h0 h4 h8 h9 h10 h12 => by rw [up_c h12]; exact hF.1 c h0 h4 h8 h9 h10 h12, hF.2⟩ (fun j hj => ?_) (by rw [up_c (by decide)]; exact hw)
      by_cases he : j = i
      · subst he; rw [up_s]
      · rw [up_k he]; exact hq j (by omega)
set_option maxHeartbeats 4000000 in
set_option maxRecDepth 20000 in
theorem c_X7_falls (g : Gx) {q : Nat → Nat} {σ : Nat → Nat → Int} {nn : Nat} (hn : σ 0 0 = (nn : Int)) (hn2 : 2 ≤ nn) (hn6 : nn ≤ 6) (hA : ∀ s, AMb (laid σ nn s) nn) : MC g yX7_falls cX7_falls 5 ((some .int)) 4 123 (WM g q σ) [.ref (q 0)] (fun u => WM g q u) (pI (fun z u => Core σ u ∧ FlM σ nn z)) := by
  refine MC_intro (own := RX7) rfl (by decide) (Nat.le_of_ble_eq_true rfl) (fun K C T => ?_)
  show GJ g K (WM g q σ) 0 [(0, .ref (q 0))] []
  refine g_aload_n 0 C rfl dX7_falls_0 rfl ?_
  refine gf_X7_7 C dX7_falls_1 ?_
  rw [show σ 0 0 = (nn : Int) from hn]
  refine g_iconst C dX7_falls_4 ?_
  refine g_idiv C dX7_falls_5 (by unfold I32; omega) (by unfold I32; omega) (by omega) ?_
  refine g_iname (fun w1 ew1 => ?_)
  refine g_istore_n (lv' := [(0, .ref (q 0)), (1, .int (iZ w1))]) [1, 0] C dX7_falls_6 rfl (by decide) rfl ?_
  refine g_bipush C dX7_falls_7 (by decide) ?_
  refine g_istore_n (lv' := [(0, .ref (q 0)), (1, .int (iZ w1)), (2, .int (iZ (-4)))]) [1, 2, 0] C dX7_falls_9 rfl (by decide) rfl ?_
  refine g_iconst C dX7_falls_10 ?_
  refine g_istore_n (lv' := [(0, .ref (q 0)), (1, .int (iZ w1)), (2, .int (iZ (-4))), (3, .int (iZ 0))]) [1, 2, 3, 0] C dX7_falls_11 rfl (by decide) rfl ?_
  exact fa1_X7 hn hn2 hn6 hA (by rw [ew1]; exact (Int.ofNat_tdiv nn 2).symm) C T (nn + 2) 0 (by omega) (by omega) σ ⟨fun _ _ _ _ _ _ _ => rfl, rfl⟩ (fun j hj => absurd hj (by omega)) rfl
