def gcZ (a b : Int) : Int := ((Nat.gcd a.natAbs b.natAbs : Nat) : Int)
theorem gcZ_pos {a b : Int} (hb : 0 < b) : 0 < gcZ a b ∧ gcZ a b ≤ b := by
  have e : (gcZ a b) ∣ b := Int.ofNat_dvd_left.mpr (Nat.gcd_dvd_right _ _)
  refine ⟨?_, Int.le_of_dvd hb e⟩
  have h : 0 < Nat.gcd a.natAbs b.natAbs := Nat.gcd_pos_of_pos_right _ (by omega)
  unfold gcZ
  omega
def Loose (σ : Nat → Nat → Int) (n : Nat) : Prop := ∀ i, i < n + 1 → moM σ n i = 0
def ThM (lo : Prop) (u : Nat → Nat → Int) (wh pt z : Int) : Prop := (u 0 12 = 0 ∧ z = -2) ∨ (u 0 12 = 1 ∧ ∃ k b, ((wh = 0 ∧ k = u 10 2 ∧ b = u 0 14) ∨ (wh = 1 ∧ k = u 0 15 ∧ b = u 0 16)) ∧ ((((wh = 0 ∧ lo) ∨ k = 0) ∧ z = -4) ∨ (¬ ((wh = 0 ∧ lo) ∨ k = 0) ∧ ((pt = 0 ∧ z = b.tdiv (gcZ k b)) ∨ (pt = 1 ∧ z = k.tdiv (gcZ k b))))))
def HtM (lo : Prop) (σ u : Nat → Nat → Int) (n i : Nat) (pt z : Int) : Prop := (u 0 12 = 0 ∧ z = -1000000000000002) ∨ (u 0 12 = 1 ∧ ((lo ∧ z = -1000000000000004) ∨ (¬ lo ∧ ∃ A B, A = u 10 0 * (σ 1 n - σ 1 i) + u 10 1 * σ 1 i + u 10 2 * moM σ n i ∧ B = u 0 14 * σ 1 n ∧ ((pt = 0 ∧ z = A.tdiv (gcZ A B)) ∨ (pt = 1 ∧ z = B.tdiv (gcZ A B))))))
set_option maxHeartbeats 4000000 in
set_option maxRecDepth 20000 in
theorem c_X7_thrust (g : Gx) {q : Nat → Nat} {σ : Nat → Nat → Int} {nn : Nat} {wh pt : Int} (h_wh : I32 wh) (h_pt : I32 pt) (hA : AMb σ nn) : MC g yX7_thrust cX7_thrust 9 ((some .long)) 4 123 (WM g q σ) [.ref (q 0), .int (iZ wh), .int (iZ pt)] (fun u => WM g q u) (pL (fun z u => (¬ ((0 ≤ wh ∧ wh ≤ 1) ∧ (0 ≤ pt ∧ pt ≤ 1)) ∧ z = -1 ∧ u = σ) ∨ (((0 ≤ wh ∧ wh ≤ 1) ∧ (0 ≤ pt ∧ pt ≤ 1)) ∧ FrA σ u ∧ LN σ nn u ∧ ThM (Loose σ nn) u wh pt z))) := by
  refine MC_intro (own := RX7) rfl (by decide) (Nat.le_of_ble_eq_true rfl) (fun K C T => ?_)
  show GJ g K (WM g q σ) 0 [(0, .ref (q 0)), (1, .int (iZ wh)), (2, .int (iZ pt))] []
  have hn := hA.1
  have hn2 := hA.2.1
  have hn6 := hA.2.2.1
  refine g_iload_n 1 C rfl dX7_thrust_0 rfl ?_
  refine g_i2l C dX7_thrust_1 h_wh ?_
  refine g_lconst 0 C dX7_thrust_2 (by decide) ?_
  refine g_lconst 1 C dX7_thrust_3 (by decide) ?_
  refine g_callSI C (c_X7_in g (v := wh) (a := 0) (b := 1) (I64_32 h_wh) (by unfold I64; omega) (by unfold I64; omega)) gs_X7_59 yd_X7_in ⟨by decide, by decide⟩ rfl (Nat.le_of_ble_eq_true rfl) dX7_thrust_4 ?_
  rintro _ rfl
  refine g_beq 20 C dX7_thrust_7 (by decide) (fun h1 => ?_) (fun h1 => ?_)
  · refine g_ldc2 (-1) C wk_X7_144 (by decide) dX7_thrust_20 ?_
    refine g_lret (u := σ) C T dX7_thrust_23 ?_
    exact ⟨_, rfl, Or.inl ⟨by omega, rfl, rfl⟩⟩
  · refine g_iload_n 2 C rfl dX7_thrust_10 rfl ?_
    refine g_i2l C dX7_thrust_11 h_pt ?_
    refine g_lconst 0 C dX7_thrust_12 (by decide) ?_
    refine g_lconst 1 C dX7_thrust_13 (by decide) ?_
    refine g_callSI C (c_X7_in g (v := pt) (a := 0) (b := 1) (I64_32 h_pt) (by unfold I64; omega) (by unfold I64; omega)) gs_X7_59 yd_X7_in ⟨by decide, by decide⟩ rfl (Nat.le_of_ble_eq_true rfl) dX7_thrust_14 ?_
    rintro _ rfl
    refine g_bne 24 C dX7_thrust_17 (by decide) (fun h2 => ?_) (fun h2 => ?_)
    · refine g_aload_n 0 C rfl dX7_thrust_24 rfl ?_
      refine g_callV C (c_X7_findLines g hA) gv_X7_141 yd_X7_findLines ⟨by decide, by decide⟩ 0 7 (WD_get (by decide)) rfl rfl (Nat.le_of_ble_eq_true rfl) dX7_thrust_25 ?_
      rintro u1 ⟨hF1, hI1⟩
      refine g_aload_n 0 C rfl dX7_thrust_28 rfl ?_
      refine gf_X7_114 C dX7_thrust_29 ?_
      refine g_if_ne 39 C (by rcases hI1.1 with h | h <;> unfold I32 <;> omega) dX7_thrust_32 (by decide) (fun h3 => ?_) (fun h3 => ?_)
      · obtain ⟨h12, ⟨hb14, hB14, hB100, hB101, hB102⟩, hb16, hB16, hB15⟩ := hI1.1.resolve_left h3
        refine g_iload_n 1 C rfl dX7_thrust_39 rfl ?_
        refine g_if_ne 52 C h_wh dX7_thrust_40 (by decide) (fun h4 => ?_) (fun h4 => ?_)
        · refine g_aload_n 0 C rfl dX7_thrust_52 rfl ?_
          refine gf_X7_135 C dX7_thrust_53 ?_
          refine g_lname (fun w5 ew5 => ?_)
          refine g_lstore_n (lv' := [(0, .ref (q 0)), (1, .int (iZ wh)), (2, .int (iZ pt)), (3, .long (lZ w5))]) [1, 2, 3, 0] C dX7_thrust_56 rfl (by decide) rfl ?_
          refine g_iload_n 1 C rfl dX7_thrust_57 rfl ?_
          refine g_if_ne 68 C h_wh dX7_thrust_58 (by decide) (fun h6 => ?_) (fun h6 => ?_)
          · refine g_aload_n 0 C rfl dX7_thrust_68 rfl ?_
            refine gf_X7_138 C dX7_thrust_69 ?_
            refine g_lname (fun w7 ew7 => ?_)
            refine g_lstore (lv' := [(0, .ref (q 0)), (1, .int (iZ wh)), (2, .int (iZ pt)), (3, .long (lZ w5)), (5, .long (lZ w7))]) [1, 2, 3, 4, 0] C dX7_thrust_72 (by decide) rfl ?_
            refine g_iload_n 1 C rfl dX7_thrust_74 rfl ?_
            refine g_if_ne 85 C h_wh dX7_thrust_75 (by decide) (fun h8 => ?_) (fun h8 => ?_)
            · refine g_lload_n 3 C rfl dX7_thrust_85 rfl ?_
              refine g_lconst 0 C dX7_thrust_86 (by decide) ?_
              refine g_lcmp_ne 95 C (by unfold Bd at *; unfold I64; omega) (by unfold I64; omega) dX7_thrust_87 dX7_thrust_88 (by decide) (fun h9 => ?_) (fun h9 => ?_)
              · refine g_lload_n 3 C rfl dX7_thrust_95 rfl ?_
                refine g_lload 4 C rfl dX7_thrust_96 ?_
                refine g_callSL C (c_X7_common g (a := w5) (b := w7) (by unfold Bd at *; omega) (by unfold Bd at *; omega)) gs_X7_125 yd_X7_common ⟨by decide, by decide⟩ rfl (Nat.le_of_ble_eq_true rfl) dX7_thrust_98 ?_
                rintro _ rfl
                change GJ g K _ _ _ (.long (lZ (gcZ w5 w7)) :: _)
                refine g_lname (fun w10 ew10 => ?_)
                refine g_lstore (lv' := [(0, .ref (q 0)), (1, .int (iZ wh)), (2, .int (iZ pt)), (3, .long (lZ w5)), (5, .long (lZ w7)), (7, .long (lZ w10))]) [1, 2, 3, 4, 5, 0] C dX7_thrust_101 (by decide) rfl ?_
                refine g_iload_n 2 C rfl dX7_thrust_103 rfl ?_
                refine g_if_ne 115 C h_pt dX7_thrust_104 (by decide) (fun h11 => ?_) (fun h11 => ?_)
                · refine g_lload_n 3 C rfl dX7_thrust_115 rfl ?_
                  refine g_lload 5 C rfl dX7_thrust_116 ?_
                  refine g_ldiv C dX7_thrust_118 (by unfold Bd at *; unfold I64; omega) (by have h9 := gcZ_pos (a := w5) (b := w7) (by omega); rw [ew10]; unfold Bd at *; unfold I64; omega) (by have h9 := (gcZ_pos (a := w5) (b := w7) (by omega)).1; rw [ew10]; omega) ?_
                  refine g_lret (u := u1) C T dX7_thrust_119 ?_
                  refine ⟨_, rfl, Or.inr ⟨by omega, hF1, hI1, ?_⟩⟩
                  exact Or.inr ⟨h12, w5, w7, Or.inr ⟨by omega, ew5, ew7⟩, Or.inr ⟨fun h => h.elim (fun h => absurd h.1 (by omega)) (fun h => by omega), Or.inr ⟨by omega, by rw [ew10]⟩⟩⟩
                · refine g_lload 4 C rfl dX7_thrust_107 ?_
                  refine g_lload 5 C rfl dX7_thrust_109 ?_
                  refine g_ldiv C dX7_thrust_111 (by unfold Bd at *; unfold I64; omega) (by have h9 := gcZ_pos (a := w5) (b := w7) (by omega); rw [ew10]; unfold Bd at *; unfold I64; omega) (by have h9 := (gcZ_pos (a := w5) (b := w7) (by omega)).1; rw [ew10]; omega) ?_
                  refine g_goto 119 C dX7_thrust_112 (by decide) ?_
                  refine g_lret (u := u1) C T dX7_thrust_119 ?_
                  refine ⟨_, rfl, Or.inr ⟨by omega, hF1, hI1, ?_⟩⟩
                  exact Or.inr ⟨h12, w5, w7, Or.inr ⟨by omega, ew5, ew7⟩, Or.inr ⟨fun h => h.elim (fun h => absurd h.1 (by omega)) (fun h => by omega), Or.inl ⟨by omega, by rw [ew10]⟩⟩⟩
              · refine g_ldc2 (-4) C wk_X7_149 (by decide) dX7_thrust_91 ?_
                refine g_lret (u := u1) C T dX7_thrust_94 ?_
                refine ⟨_, rfl, Or.inr ⟨by omega, hF1, hI1, ?_⟩⟩
                exact Or.inr ⟨h12, w5, w7, Or.inr ⟨by omega, ew5, ew7⟩, Or.inl ⟨Or.inr (by omega), rfl⟩⟩
            · exact absurd h8 (by first | decide | omega)
          · exact absurd h6 (by first | decide | omega)
        · refine g_aload_n 0 C rfl dX7_thrust_43 rfl ?_
          refine gf_X7_42 C dX7_thrust_44 ?_
          refine g_iconst C dX7_thrust_47 ?_
          refine g_lald C 10 2 (by decide) (fun _ => rfl) (by omega) (by omega) (by decide) dX7_thrust_48 ?_
          refine g_goto 56 C dX7_thrust_49 (by decide) ?_
          refine g_lname (fun w12 ew12 => ?_)
          refine g_lstore_n (lv' := [(0, .ref (q 0)), (1, .int (iZ wh)), (2, .int (iZ pt)), (3, .long (lZ w12))]) [1, 2, 3, 0] C dX7_thrust_56 rfl (by decide) rfl ?_
          refine g_iload_n 1 C rfl dX7_thrust_57 rfl ?_
          refine g_if_ne 68 C h_wh dX7_thrust_58 (by decide) (fun h13 => ?_) (fun h13 => ?_)
          · exact absurd h13 (by first | decide | omega)
          refine g_aload_n 0 C rfl dX7_thrust_61 rfl ?_
          refine gf_X7_128 C dX7_thrust_62 ?_
          refine g_goto 72 C dX7_thrust_65 (by decide) ?_
          refine g_lname (fun w14 ew14 => ?_)
          refine g_lstore (lv' := [(0, .ref (q 0)), (1, .int (iZ wh)), (2, .int (iZ pt)), (3, .long (lZ w12)), (5, .long (lZ w14))]) [1, 2, 3, 4, 0] C dX7_thrust_72 (by decide) rfl ?_
          refine g_iload_n 1 C rfl dX7_thrust_74 rfl ?_
          refine g_if_ne 85 C h_wh dX7_thrust_75 (by decide) (fun h15 => ?_) (fun h15 => ?_)
          · exact absurd h15 (by first | decide | omega)
          refine g_aload_n 0 C rfl dX7_thrust_78 rfl ?_
          refine g_callI C (c_X7_isLoose g (σ := u1) (nn := nn) (hF1.2.trans hn) hn2 hn6 (fun i hi => by rw [hF1.mo]; exact (hA.2.2.2.2.2 i hi).I32 (by decide))) gv_X7_146 yd_X7_isLoose ⟨by decide, by decide⟩ 0 7 (WD_get (by decide)) rfl rfl (Nat.le_of_ble_eq_true rfl) dX7_thrust_79 ?_
          rintro _ _ rfl
          rw [hF1.mo]
          change GJ g K _ _ _ (.int (iZ (bZ (Loose σ nn))) :: _)
          refine g_bne 91 C dX7_thrust_82 (by decide) (fun h16 => ?_) (fun h16 => ?_)
          · refine g_ldc2 (-4) C wk_X7_149 (by decide) dX7_thrust_91 ?_
            refine g_lret (u := u1) C T dX7_thrust_94 ?_
            refine ⟨_, rfl, Or.inr ⟨by omega, hF1, hI1, ?_⟩⟩
            exact Or.inr ⟨h12, w12, w14, Or.inl ⟨by omega, ew12, ew14⟩, Or.inl ⟨Or.inl ⟨by omega, h16⟩, rfl⟩⟩
          · refine g_lload_n 3 C rfl dX7_thrust_85 rfl ?_
            refine g_lconst 0 C dX7_thrust_86 (by decide) ?_
            refine g_lcmp_ne 95 C (by unfold Bd at *; unfold I64; omega) (by unfold I64; omega) dX7_thrust_87 dX7_thrust_88 (by decide) (fun h17 => ?_) (fun h17 => ?_)
            · refine g_lload_n 3 C rfl dX7_thrust_95 rfl ?_
              refine g_lload 4 C rfl dX7_thrust_96 ?_
              refine g_callSL C (c_X7_common g (a := w12) (b := w14) (by unfold Bd at *; omega) (by unfold Bd at *; omega)) gs_X7_125 yd_X7_common ⟨by decide, by decide⟩ rfl (Nat.le_of_ble_eq_true rfl) dX7_thrust_98 ?_
              rintro _ rfl
              change GJ g K _ _ _ (.long (lZ (gcZ w12 w14)) :: _)
              refine g_lname (fun w18 ew18 => ?_)
              refine g_lstore (lv' := [(0, .ref (q 0)), (1, .int (iZ wh)), (2, .int (iZ pt)), (3, .long (lZ w12)), (5, .long (lZ w14)), (7, .long (lZ w18))]) [1, 2, 3, 4, 5, 0] C dX7_thrust_101 (by decide) rfl ?_
              refine g_iload_n 2 C rfl dX7_thrust_103 rfl ?_
              refine g_if_ne 115 C h_pt dX7_thrust_104 (by decide) (fun h19 => ?_) (fun h19 => ?_)
              · refine g_lload_n 3 C rfl dX7_thrust_115 rfl ?_
                refine g_lload 5 C rfl dX7_thrust_116 ?_
                refine g_ldiv C dX7_thrust_118 (by unfold Bd at *; unfold I64; omega) (by have h9 := gcZ_pos (a := w12) (b := w14) (by omega); rw [ew18]; unfold Bd at *; unfold I64; omega) (by have h9 := (gcZ_pos (a := w12) (b := w14) (by omega)).1; rw [ew18]; omega) ?_
                refine g_lret (u := u1) C T dX7_thrust_119 ?_
                refine ⟨_, rfl, Or.inr ⟨by omega, hF1, hI1, ?_⟩⟩
                exact Or.inr ⟨h12, w12, w14, Or.inl ⟨by omega, ew12, ew14⟩, Or.inr ⟨fun h => h.elim (fun h => h16 h.2) (fun h => by omega), Or.inr ⟨by omega, by rw [ew18]⟩⟩⟩
              · refine g_lload 4 C rfl dX7_thrust_107 ?_
                refine g_lload 5 C rfl dX7_thrust_109 ?_
                refine g_ldiv C dX7_thrust_111 (by unfold Bd at *; unfold I64; omega) (by have h9 := gcZ_pos (a := w12) (b := w14) (by omega); rw [ew18]; unfold Bd at *; unfold I64; omega) (by have h9 := (gcZ_pos (a := w12) (b := w14) (by omega)).1; rw [ew18]; omega) ?_
                refine g_goto 119 C dX7_thrust_112 (by decide) ?_
                refine g_lret (u := u1) C T dX7_thrust_119 ?_
                refine ⟨_, rfl, Or.inr ⟨by omega, hF1, hI1, ?_⟩⟩
                exact Or.inr ⟨h12, w12, w14, Or.inl ⟨by omega, ew12, ew14⟩, Or.inr ⟨fun h => h.elim (fun h => h16 h.2) (fun h => by omega), Or.inl ⟨by omega, by rw [ew18]⟩⟩⟩
            · refine g_ldc2 (-4) C wk_X7_149 (by decide) dX7_thrust_91 ?_
              refine g_lret (u := u1) C T dX7_thrust_94 ?_
              refine ⟨_, rfl, Or.inr ⟨by omega, hF1, hI1, ?_⟩⟩
              exact Or.inr ⟨h12, w12, w14, Or.inl ⟨by omega, ew12, ew14⟩, Or.inl ⟨Or.inr (by omega), rfl⟩⟩
      · refine g_ldc2 (-2) C wk_X7_86 (by decide) dX7_thrust_35 ?_
        refine g_lret (u := u1) C T dX7_thrust_38 ?_
        refine ⟨_, rfl, Or.inr ⟨by omega, hF1, hI1, ?_⟩⟩
        exact Or.inl ⟨by omega, rfl⟩
    · refine g_ldc2 (-1) C wk_X7_144 (by decide) dX7_thrust_20 ?_
      refine g_lret (u := σ) C T dX7_thrust_23 ?_
      exact ⟨_, rfl, Or.inl ⟨by omega, rfl, rfl⟩⟩
set_option maxHeartbeats 4000000 in
set_option maxRecDepth 20000 in
theorem c_X7_height (g : Gx) {q : Nat → Nat} {σ : Nat → Nat → Int} {nn : Nat} {ii pt : Int} (h_ii : I32 ii) (h_pt : I32 pt) (hA : AMb σ nn) (hL : 0 < σ 1 nn) : MC g yX7_height cX7_height 9 ((some .long)) 4 123 (WM g q σ) [.ref (q 0), .int (iZ ii), .int (iZ pt)] (fun u => WM g q u) (pL (fun z u => (¬ ((0 ≤ ii ∧ ii ≤ (nn : Int)) ∧ (0 ≤ pt ∧ pt ≤ 1)) ∧ z = -1000000000000001 ∧ u = σ) ∨ ((0 ≤ ii ∧ ii ≤ (nn : Int)) ∧ (0 ≤ pt ∧ pt ≤ 1) ∧ FrA σ u ∧ LN σ nn u ∧ HtM (Loose σ nn) σ u nn ii.toNat pt z))) := by
  refine MC_intro (own := RX7) rfl (by decide) (Nat.le_of_ble_eq_true rfl) (fun K C T => ?_)
  show GJ g K (WM g q σ) 0 [(0, .ref (q 0)), (1, .int (iZ ii)), (2, .int (iZ pt))] []
  have hn := hA.1
  have hn2 := hA.2.1
  have hn6 := hA.2.2.1
  refine g_iload_n 1 C rfl dX7_height_0 rfl ?_
  refine g_i2l C dX7_height_1 h_ii ?_
  refine g_lconst 0 C dX7_height_2 (by decide) ?_
  refine g_aload_n 0 C rfl dX7_height_3 rfl ?_
  refine gf_X7_7 C dX7_height_4 ?_
  rw [show σ 0 0 = (nn : Int) from hn]
  refine g_i2l C dX7_height_7 (by unfold I32; omega) ?_
  refine g_callSI C (c_X7_in g (v := ii) (a := 0) (b := (nn : Int)) (I64_32 h_ii) (by unfold I64; omega) (I64_32 (by unfold I32; omega))) gs_X7_59 yd_X7_in ⟨by decide, by decide⟩ rfl (Nat.le_of_ble_eq_true rfl) dX7_height_8 ?_
  rintro _ rfl
  refine g_beq 24 C dX7_height_11 (by decide) (fun h1 => ?_) (fun h1 => ?_)
  · refine g_ldc2 (-1000000000000001) C wk_X7_151 (by decide) dX7_height_24 ?_
    refine g_lret (u := σ) C T dX7_height_27 ?_
    exact ⟨_, rfl, Or.inl ⟨by omega, rfl, rfl⟩⟩
  · refine g_iload_n 2 C rfl dX7_height_14 rfl ?_
    refine g_i2l C dX7_height_15 h_pt ?_
    refine g_lconst 0 C dX7_height_16 (by decide) ?_
    refine g_lconst 1 C dX7_height_17 (by decide) ?_
    refine g_callSI C (c_X7_in g (v := pt) (a := 0) (b := 1) (I64_32 h_pt) (by unfold I64; omega) (by unfold I64; omega)) gs_X7_59 yd_X7_in ⟨by decide, by decide⟩ rfl (Nat.le_of_ble_eq_true rfl) dX7_height_18 ?_
    rintro _ rfl
    refine g_bne 28 C dX7_height_21 (by decide) (fun h2 => ?_) (fun h2 => ?_)
    · refine g_aload_n 0 C rfl dX7_height_28 rfl ?_
      refine g_callV C (c_X7_findLines g hA) gv_X7_141 yd_X7_findLines ⟨by decide, by decide⟩ 0 7 (WD_get (by decide)) rfl rfl (Nat.le_of_ble_eq_true rfl) dX7_height_29 ?_
      rintro u1 ⟨hF1, hI1⟩
      refine g_aload_n 0 C rfl dX7_height_32 rfl ?_
      refine gf_X7_114 C dX7_height_33 ?_
      refine g_if_ne 43 C (by rcases hI1.1 with h | h <;> unfold I32 <;> omega) dX7_height_36 (by decide) (fun h3 => ?_) (fun h3 => ?_)
      · obtain ⟨h12, ⟨hb14, hB14, hB100, hB101, hB102⟩, hb16, hB16, hB15⟩ := hI1.1.resolve_left h3
        refine g_aload_n 0 C rfl dX7_height_43 rfl ?_
        refine g_callI C (c_X7_isLoose g (σ := u1) (nn := nn) (hF1.2.trans hn) hn2 hn6 (fun i hi => by rw [hF1.mo]; exact (hA.2.2.2.2.2 i hi).I32 (by decide))) gv_X7_146 yd_X7_isLoose ⟨by decide, by decide⟩ 0 7 (WD_get (by decide)) rfl rfl (Nat.le_of_ble_eq_true rfl) dX7_height_44 ?_
        rintro _ _ rfl
        rw [hF1.mo]
        change GJ g K _ _ _ (.int (iZ (bZ (Loose σ nn))) :: _)
        refine g_beq 54 C dX7_height_47 (by decide) (fun h4 => ?_) (fun h4 => ?_)
        · refine g_aload_n 0 C rfl dX7_height_54 rfl ?_
          refine gf_X7_42 C dX7_height_55 ?_
          refine g_iconst C dX7_height_58 ?_
          refine g_lald C 10 0 (by decide) (fun _ => rfl) (by omega) (by omega) (by decide) dX7_height_59 ?_
          refine g_aload_n 0 C rfl dX7_height_60 rfl ?_
          refine gf_X7_13 C dX7_height_61 ?_
          refine g_aload_n 0 C rfl dX7_height_64 rfl ?_
          refine gf_X7_7 C dX7_height_65 ?_
          rw [show u1 0 0 = (nn : Int) from (hF1.2.trans hn)]
          refine g_iald C 1 nn (by decide) (fun _ => rfl) (by omega) (by omega) (by decide) dX7_height_68 ?_
          rw [show u1 1 nn = σ 1 nn from congrFun (hF1.1 1 (by decide) (by decide) (by decide) (by decide)) _]
          refine g_aload_n 0 C rfl dX7_height_69 rfl ?_
          refine gf_X7_13 C dX7_height_70 ?_
          refine g_iload_n 1 C rfl dX7_height_73 rfl ?_
          refine g_iald C 1 ((ii).toNat) (by decide) (fun _ => rfl) (by omega) (by omega) (by decide) dX7_height_74 ?_
          rw [show u1 1 ((ii).toNat) = σ 1 ((ii).toNat) from congrFun (hF1.1 1 (by decide) (by decide) (by decide) (by decide)) _]
          refine g_isub C dX7_height_75 ?_
          refine g_i2l C dX7_height_76 (by have h8 := hA.2.2.2.1 nn (by omega); have h9 := hA.2.2.2.1 (ii.toNat) (by omega); unfold I32; omega) ?_
          refine g_lmul C dX7_height_77 ?_
          refine g_aload_n 0 C rfl dX7_height_78 rfl ?_
          refine gf_X7_42 C dX7_height_79 ?_
          refine g_iconst C dX7_height_82 ?_
          refine g_lald C 10 1 (by decide) (fun _ => rfl) (by omega) (by omega) (by decide) dX7_height_83 ?_
          refine g_aload_n 0 C rfl dX7_height_84 rfl ?_
          refine gf_X7_13 C dX7_height_85 ?_
          refine g_iload_n 1 C rfl dX7_height_88 rfl ?_
          refine g_iald C 1 ((ii).toNat) (by decide) (fun _ => rfl) (by omega) (by omega) (by decide) dX7_height_89 ?_
          rw [show u1 1 ((ii).toNat) = σ 1 ((ii).toNat) from congrFun (hF1.1 1 (by decide) (by decide) (by decide) (by decide)) _]
          refine g_i2l C dX7_height_90 (by have h8 := hA.2.2.2.1 nn (by omega); have h9 := hA.2.2.2.1 (ii.toNat) (by omega); unfold I32; omega) ?_
          refine g_lmul C dX7_height_91 ?_
          refine g_ladd C dX7_height_92 ?_
          refine g_aload_n 0 C rfl dX7_height_93 rfl ?_
          refine gf_X7_42 C dX7_height_94 ?_
          refine g_iconst C dX7_height_97 ?_
          refine g_lald C 10 2 (by decide) (fun _ => rfl) (by omega) (by omega) (by decide) dX7_height_98 ?_
          refine g_aload_n 0 C rfl dX7_height_99 rfl ?_
          refine g_iload_n 1 C rfl dX7_height_100 rfl ?_
          have hii : ii = ((ii.toNat : Nat) : Int) := by omega
          have hmo := c_X7_momentAt g (q := q) (σ := u1) (nn := nn) (i := ii.toNat) (hF1.2.trans hn) hn2 hn6 (by omega)
          rw [← hii] at hmo
          refine g_callI C hmo gv_X7_78 yd_X7_momentAt ⟨by decide, by decide⟩ 0 7 (WD_get (by decide)) rfl rfl (Nat.le_of_ble_eq_true rfl) dX7_height_101 ?_
          rintro _ _ rfl
          change GJ g K _ _ _ (.int (iZ (moM u1 nn ii.toNat)) :: _)
          rw [hF1.mo]
          refine g_i2l C dX7_height_104 ((hA.2.2.2.2.2 _ (by omega)).I32 (by decide)) ?_
          refine g_lmul C dX7_height_105 ?_
          refine g_ladd C dX7_height_106 ?_
          refine g_lname (fun w5 ew5 => ?_)
          refine g_lstore_n (lv' := [(0, .ref (q 0)), (1, .int (iZ ii)), (2, .int (iZ pt)), (3, .long (lZ w5))]) [1, 2, 3, 0] C dX7_height_107 rfl (by decide) rfl ?_
          refine g_aload_n 0 C rfl dX7_height_108 rfl ?_
          refine gf_X7_128 C dX7_height_109 ?_
          refine g_aload_n 0 C rfl dX7_height_112 rfl ?_
          refine gf_X7_13 C dX7_height_113 ?_
          refine g_aload_n 0 C rfl dX7_height_116 rfl ?_
          refine gf_X7_7 C dX7_height_117 ?_
          rw [show u1 0 0 = (nn : Int) from (hF1.2.trans hn)]
          refine g_iald C 1 nn (by decide) (fun _ => rfl) (by omega) (by omega) (by decide) dX7_height_120 ?_
          rw [show u1 1 nn = σ 1 nn from congrFun (hF1.1 1 (by decide) (by decide) (by decide) (by decide)) _]
          refine g_i2l C dX7_height_121 (by have h8 := hA.2.2.2.1 nn (by omega); have h9 := hA.2.2.2.1 (ii.toNat) (by omega); unfold I32; omega) ?_
          refine g_lmul C dX7_height_122 ?_
          refine g_lname (fun w6 ew6 => ?_)
          refine g_lstore (lv' := [(0, .ref (q 0)), (1, .int (iZ ii)), (2, .int (iZ pt)), (3, .long (lZ w5)), (5, .long (lZ w6))]) [1, 2, 3, 4, 0] C dX7_height_123 (by decide) rfl ?_
          have hx8 := hA.2.2.2.1 nn (by omega)
          have hx9 := hA.2.2.2.1 (ii.toNat) (by omega)
          have hBA : Bd w5 200000000000 := by
            rw [ew5]
            exact (((hB100.mul (B := 20) ⟨by omega, by omega⟩).add (hB101.mul (B := 20) ⟨by omega, by omega⟩)).add (hB102.mul (hA.2.2.2.2.2 _ (by omega)))).mono (by decide)
          have hBB : Bd w6 2000000000 := by
            rw [ew6]
            exact (hB14.mul (B := 20) ⟨by omega, by omega⟩).mono (by decide)
          have hB0 : 0 < w6 := by rw [ew6]; exact Int.mul_pos hb14 hL
          refine g_lload_n 3 C rfl dX7_height_125 rfl ?_
          refine g_lload 4 C rfl dX7_height_126 ?_
          refine g_callSL C (c_X7_common g (a := w5) (b := w6) (hBA.M (by decide)) (hBB.M (by decide))) gs_X7_125 yd_X7_common ⟨by decide, by decide⟩ rfl (Nat.le_of_ble_eq_true rfl) dX7_height_128 ?_
          rintro _ rfl
          change GJ g K _ _ _ (.long (lZ (gcZ w5 w6)) :: _)
          refine g_lname (fun w7 ew7 => ?_)
          refine g_lstore (lv' := [(0, .ref (q 0)), (1, .int (iZ ii)), (2, .int (iZ pt)), (3, .long (lZ w5)), (5, .long (lZ w6)), (7, .long (lZ w7))]) [1, 2, 3, 4, 5, 0] C dX7_height_131 (by decide) rfl ?_
          refine g_iload_n 2 C rfl dX7_height_133 rfl ?_
          refine g_if_ne 144 C h_pt dX7_height_134 (by decide) (fun h8 => ?_) (fun h8 => ?_)
          · refine g_lload 4 C rfl dX7_height_144 ?_
            refine g_lload 5 C rfl dX7_height_146 ?_
            refine g_ldiv C dX7_height_148 (hBB.I (by decide)) (by have h9 := gcZ_pos (a := w5) (b := w6) (by omega); rw [ew7]; have h8 := hBB.2; unfold I64; omega) (by have h9 := (gcZ_pos (a := w5) (b := w6) (by omega)).1; rw [ew7]; omega) ?_
            refine g_lret (u := u1) C T dX7_height_149 ?_
            refine ⟨_, rfl, Or.inr ⟨by omega, by omega, hF1, hI1, ?_⟩⟩
            exact Or.inr ⟨h12, Or.inr ⟨h4, w5, w6, ew5, ew6, Or.inr ⟨by omega, by rw [ew7]⟩⟩⟩
          · refine g_lload_n 3 C rfl dX7_height_137 rfl ?_
            refine g_lload 5 C rfl dX7_height_138 ?_
            refine g_ldiv C dX7_height_140 (hBA.I (by decide)) (by have h9 := gcZ_pos (a := w5) (b := w6) (by omega); rw [ew7]; have h8 := hBB.2; unfold I64; omega) (by have h9 := (gcZ_pos (a := w5) (b := w6) (by omega)).1; rw [ew7]; omega) ?_
            refine g_goto 149 C dX7_height_141 (by decide) ?_
            refine g_lret (u := u1) C T dX7_height_149 ?_
            refine ⟨_, rfl, Or.inr ⟨by omega, by omega, hF1, hI1, ?_⟩⟩
            exact Or.inr ⟨h12, Or.inr ⟨h4, w5, w6, ew5, ew6, Or.inl ⟨by omega, by rw [ew7]⟩⟩⟩
        · refine g_ldc2 (-1000000000000004) C wk_X7_155 (by decide) dX7_height_50 ?_
          refine g_lret (u := u1) C T dX7_height_53 ?_
          refine ⟨_, rfl, Or.inr ⟨by omega, by omega, hF1, hI1, ?_⟩⟩
          exact Or.inr ⟨h12, Or.inl ⟨h4, rfl⟩⟩
      · refine g_ldc2 (-1000000000000002) C wk_X7_153 (by decide) dX7_height_39 ?_
        refine g_lret (u := u1) C T dX7_height_42 ?_
        refine ⟨_, rfl, Or.inr ⟨by omega, by omega, hF1, hI1, ?_⟩⟩
        exact Or.inl ⟨by omega, rfl⟩
    · refine g_ldc2 (-1000000000000001) C wk_X7_151 (by decide) dX7_height_24 ?_
      refine g_lret (u := σ) C T dX7_height_27 ?_
      exact ⟨_, rfl, Or.inl ⟨by omega, rfl, rfl⟩⟩
