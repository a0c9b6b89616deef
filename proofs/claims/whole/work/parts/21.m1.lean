theorem I64_32 {z : Int} (h : I32 z) : I64 z := ⟨by have := h.1; omega, by have := h.2; omega⟩
set_option maxHeartbeats 4000000 in
set_option maxRecDepth 20000 in
theorem c_X7_in (g : Gx) {v a b : Int} (h_v : I64 v) (h_a : I64 a) (h_b : I64 b) : MC g yX7_in cX7_in 6 ((some .boolean)) 0 0 [] [.long (lZ v), .long (lZ a), .long (lZ b)] (fun _ : Unit => []) (pI (fun z _ => z = bZ (a ≤ v ∧ v ≤ b))) := by
  refine MC_intro (own := RX7) rfl (by decide) (Nat.le_of_ble_eq_true rfl) (fun K C T => ?_)
  show GJ g K [] 0 [(0, .long (lZ v)), (2, .long (lZ a)), (4, .long (lZ b))] []
  refine g_lload_n 0 C rfl dX7_in_0 rfl ?_
  refine g_lload_n 1 C rfl dX7_in_1 rfl ?_
  refine g_lcmp_lt 17 C h_v h_a dX7_in_2 dX7_in_3 (by decide) (fun h1 => ?_) (fun h1 => ?_)
  · refine g_iconst C dX7_in_17 ?_
    refine g_zret (u := ()) C T dX7_in_18 (by omega) ?_
    exact ⟨_, rfl, (bZ_f (by omega)).symm⟩
  · refine g_lload_n 0 C rfl dX7_in_6 rfl ?_
    refine g_lload 2 C rfl dX7_in_7 ?_
    refine g_lcmp_gt 17 C h_v h_b dX7_in_9 dX7_in_10 (by decide) (fun h2 => ?_) (fun h2 => ?_)
    · refine g_iconst C dX7_in_17 ?_
      refine g_zret (u := ()) C T dX7_in_18 (by omega) ?_
      exact ⟨_, rfl, (bZ_f (by omega)).symm⟩
    · refine g_iconst C dX7_in_13 ?_
      refine g_goto 18 C dX7_in_14 (by decide) ?_
      refine g_zret (u := ()) C T dX7_in_18 (by omega) ?_
      exact ⟨_, rfl, (bZ_t (by omega)).symm⟩
set_option maxHeartbeats 4000000 in
set_option maxRecDepth 20000 in
theorem c_X6_isSheet (g : Gx) {v : Int} (h_v : I32 v) : MC g yX6_isSheet cX6_isSheet 1 ((some .boolean)) 0 0 [] [.int (iZ v)] (fun _ : Unit => []) (pI (fun z _ => z = bZ (0 ≤ v ∧ v < 4))) := by
  refine MC_intro (own := RX6) rfl (by decide) (Nat.le_of_ble_eq_true rfl) (fun K C T => ?_)
  show GJ g K [] 0 [(0, .int (iZ v))] []
  refine g_iload_n 0 C rfl dX6_isSheet_0 rfl ?_
  refine g_if_lt 13 C h_v dX6_isSheet_1 (by decide) (fun h1 => ?_) (fun h1 => ?_)
  · refine g_iconst C dX6_isSheet_13 ?_
    refine g_zret (u := ()) C T dX6_isSheet_14 (by omega) ?_
    exact ⟨_, rfl, (bZ_f (by omega)).symm⟩
  · refine g_iload_n 0 C rfl dX6_isSheet_4 rfl ?_
    refine g_iconst C dX6_isSheet_5 ?_
    refine g_icmp_ge 13 C h_v (by unfold I32; omega) dX6_isSheet_6 (by decide) (fun h2 => ?_) (fun h2 => ?_)
    · refine g_iconst C dX6_isSheet_13 ?_
      refine g_zret (u := ()) C T dX6_isSheet_14 (by omega) ?_
      exact ⟨_, rfl, (bZ_f (by omega)).symm⟩
    · refine g_iconst C dX6_isSheet_9 ?_
      refine g_goto 14 C dX6_isSheet_10 (by decide) ?_
      refine g_zret (u := ()) C T dX6_isSheet_14 (by omega) ?_
      exact ⟨_, rfl, (bZ_t (by omega)).symm⟩
set_option maxHeartbeats 4000000 in
set_option maxRecDepth 20000 in
theorem c_X6_isLane (g : Gx) {v : Int} (h_v : I32 v) : MC g yX6_isLane cX6_isLane 1 ((some .boolean)) 0 0 [] [.int (iZ v)] (fun _ : Unit => []) (pI (fun z _ => z = bZ (0 ≤ v ∧ v < 3))) := by
  refine MC_intro (own := RX6) rfl (by decide) (Nat.le_of_ble_eq_true rfl) (fun K C T => ?_)
  show GJ g K [] 0 [(0, .int (iZ v))] []
  refine g_iload_n 0 C rfl dX6_isLane_0 rfl ?_
  refine g_if_lt 13 C h_v dX6_isLane_1 (by decide) (fun h1 => ?_) (fun h1 => ?_)
  · refine g_iconst C dX6_isLane_13 ?_
    refine g_zret (u := ()) C T dX6_isLane_14 (by omega) ?_
    exact ⟨_, rfl, (bZ_f (by omega)).symm⟩
  · refine g_iload_n 0 C rfl dX6_isLane_4 rfl ?_
    refine g_iconst C dX6_isLane_5 ?_
    refine g_icmp_ge 13 C h_v (by unfold I32; omega) dX6_isLane_6 (by decide) (fun h2 => ?_) (fun h2 => ?_)
    · refine g_iconst C dX6_isLane_13 ?_
      refine g_zret (u := ()) C T dX6_isLane_14 (by omega) ?_
      exact ⟨_, rfl, (bZ_f (by omega)).symm⟩
    · refine g_iconst C dX6_isLane_9 ?_
      refine g_goto 14 C dX6_isLane_10 (by decide) ?_
      refine g_zret (u := ()) C T dX6_isLane_14 (by omega) ?_
      exact ⟨_, rfl, (bZ_t (by omega)).symm⟩
set_option maxHeartbeats 4000000 in
set_option maxRecDepth 20000 in
theorem c_X6_isChoice (g : Gx) {v : Int} (h_v : I32 v) : MC g yX6_isChoice cX6_isChoice 1 ((some .boolean)) 0 0 [] [.int (iZ v)] (fun _ : Unit => []) (pI (fun z _ => z = bZ (v = 0 ∨ v = 1))) := by
  refine MC_intro (own := RX6) rfl (by decide) (Nat.le_of_ble_eq_true rfl) (fun K C T => ?_)
  show GJ g K [] 0 [(0, .int (iZ v))] []
  refine g_iload_n 0 C rfl dX6_isChoice_0 rfl ?_
  refine g_if_eq 9 C h_v dX6_isChoice_1 (by decide) (fun h1 => ?_) (fun h1 => ?_)
  · refine g_iconst C dX6_isChoice_9 ?_
    refine g_goto 14 C dX6_isChoice_10 (by decide) ?_
    refine g_zret (u := ()) C T dX6_isChoice_14 (by omega) ?_
    exact ⟨_, rfl, (bZ_t (by omega)).symm⟩
  · refine g_iload_n 0 C rfl dX6_isChoice_4 rfl ?_
    refine g_iconst C dX6_isChoice_5 ?_
    refine g_icmp_ne 13 C h_v (by unfold I32; omega) dX6_isChoice_6 (by decide) (fun h2 => ?_) (fun h2 => ?_)
    · refine g_iconst C dX6_isChoice_13 ?_
      refine g_zret (u := ()) C T dX6_isChoice_14 (by omega) ?_
      exact ⟨_, rfl, (bZ_f (by omega)).symm⟩
    · refine g_iconst C dX6_isChoice_9 ?_
      refine g_goto 14 C dX6_isChoice_10 (by decide) ?_
      refine g_zret (u := ()) C T dX6_isChoice_14 (by omega) ?_
      exact ⟨_, rfl, (bZ_t (by omega)).symm⟩
set_option maxHeartbeats 4000000 in
set_option maxRecDepth 20000 in
theorem c_X6_isHeight (g : Gx) {v : Int} (h_v : I32 v) : MC g yX6_isHeight cX6_isHeight 1 ((some .boolean)) 0 0 [] [.int (iZ v)] (fun _ : Unit => []) (pI (fun z _ => z = bZ (-20 ≤ v ∧ v ≤ 20))) := by
  refine MC_intro (own := RX6) rfl (by decide) (Nat.le_of_ble_eq_true rfl) (fun K C T => ?_)
  show GJ g K [] 0 [(0, .int (iZ v))] []
  refine g_iload_n 0 C rfl dX6_isHeight_0 rfl ?_
  refine g_bipush C dX6_isHeight_1 (by decide) ?_
  refine g_icmp_lt 16 C h_v (by unfold I32; omega) dX6_isHeight_3 (by decide) (fun h1 => ?_) (fun h1 => ?_)
  · refine g_iconst C dX6_isHeight_16 ?_
    refine g_zret (u := ()) C T dX6_isHeight_17 (by omega) ?_
    exact ⟨_, rfl, (bZ_f (by omega)).symm⟩
  · refine g_iload_n 0 C rfl dX6_isHeight_6 rfl ?_
    refine g_bipush C dX6_isHeight_7 (by decide) ?_
    refine g_icmp_gt 16 C h_v (by unfold I32; omega) dX6_isHeight_9 (by decide) (fun h2 => ?_) (fun h2 => ?_)
    · refine g_iconst C dX6_isHeight_16 ?_
      refine g_zret (u := ()) C T dX6_isHeight_17 (by omega) ?_
      exact ⟨_, rfl, (bZ_f (by omega)).symm⟩
    · refine g_iconst C dX6_isHeight_12 ?_
      refine g_goto 17 C dX6_isHeight_13 (by decide) ?_
      refine g_zret (u := ()) C T dX6_isHeight_17 (by omega) ?_
      exact ⟨_, rfl, (bZ_t (by omega)).symm⟩
set_option maxHeartbeats 4000000 in
set_option maxRecDepth 20000 in
theorem c_X6_isLoad (g : Gx) {v : Int} (h_v : I32 v) : MC g yX6_isLoad cX6_isLoad 1 ((some .boolean)) 0 0 [] [.int (iZ v)] (fun _ : Unit => []) (pI (fun z _ => z = bZ (0 ≤ v ∧ v ≤ 10))) := by
  refine MC_intro (own := RX6) rfl (by decide) (Nat.le_of_ble_eq_true rfl) (fun K C T => ?_)
  show GJ g K [] 0 [(0, .int (iZ v))] []
  refine g_iload_n 0 C rfl dX6_isLoad_0 rfl ?_
  refine g_if_lt 14 C h_v dX6_isLoad_1 (by decide) (fun h1 => ?_) (fun h1 => ?_)
  · refine g_iconst C dX6_isLoad_14 ?_
    refine g_zret (u := ()) C T dX6_isLoad_15 (by omega) ?_
    exact ⟨_, rfl, (bZ_f (by omega)).symm⟩
  · refine g_iload_n 0 C rfl dX6_isLoad_4 rfl ?_
    refine g_bipush C dX6_isLoad_5 (by decide) ?_
    refine g_icmp_gt 14 C h_v (by unfold I32; omega) dX6_isLoad_7 (by decide) (fun h2 => ?_) (fun h2 => ?_)
    · refine g_iconst C dX6_isLoad_14 ?_
      refine g_zret (u := ()) C T dX6_isLoad_15 (by omega) ?_
      exact ⟨_, rfl, (bZ_f (by omega)).symm⟩
    · refine g_iconst C dX6_isLoad_10 ?_
      refine g_goto 15 C dX6_isLoad_11 (by decide) ?_
      refine g_zret (u := ()) C T dX6_isLoad_15 (by omega) ?_
      exact ⟨_, rfl, (bZ_t (by omega)).symm⟩
set_option maxHeartbeats 4000000 in
set_option maxRecDepth 20000 in
theorem c_X6_areEdges (g : Gx) {a b : Int} (h_a : I32 a) (h_b : I32 b) : MC g yX6_areEdges cX6_areEdges 2 ((some .boolean)) 1 20 [] [.int (iZ a), .int (iZ b)] (fun _ : Unit => []) (pI (fun z _ => z = bZ ((-20 ≤ a ∧ a ≤ 20) ∧ (-20 ≤ b ∧ b ≤ 20) ∧ a ≤ b))) := by
  refine MC_intro (own := RX6) rfl (by decide) (Nat.le_of_ble_eq_true rfl) (fun K C T => ?_)
  show GJ g K [] 0 [(0, .int (iZ a)), (1, .int (iZ b))] []
  refine g_iload_n 0 C rfl dX6_areEdges_0 rfl ?_
  refine g_callSI C (c_X6_isHeight g h_a) gs_X6_196 yd_X6_isHeight ⟨by decide, by decide⟩ rfl (Nat.le_of_ble_eq_true rfl) dX6_areEdges_1 ?_
  rintro _ rfl
  refine g_beq 23 C dX6_areEdges_4 (by decide) (fun h1 => ?_) (fun h1 => ?_)
  · refine g_iconst C dX6_areEdges_23 ?_
    refine g_zret (u := ()) C T dX6_areEdges_24 (by omega) ?_
    exact ⟨_, rfl, (bZ_f (by omega)).symm⟩
  · refine g_iload_n 1 C rfl dX6_areEdges_7 rfl ?_
    refine g_callSI C (c_X6_isHeight g h_b) gs_X6_196 yd_X6_isHeight ⟨by decide, by decide⟩ rfl (Nat.le_of_ble_eq_true rfl) dX6_areEdges_8 ?_
    rintro _ rfl
    refine g_beq 23 C dX6_areEdges_11 (by decide) (fun h2 => ?_) (fun h2 => ?_)
    · refine g_iconst C dX6_areEdges_23 ?_
      refine g_zret (u := ()) C T dX6_areEdges_24 (by omega) ?_
      exact ⟨_, rfl, (bZ_f (by omega)).symm⟩
    · refine g_iload_n 0 C rfl dX6_areEdges_14 rfl ?_
      refine g_iload_n 1 C rfl dX6_areEdges_15 rfl ?_
      refine g_icmp_gt 23 C h_a h_b dX6_areEdges_16 (by decide) (fun h3 => ?_) (fun h3 => ?_)
      · refine g_iconst C dX6_areEdges_23 ?_
        refine g_zret (u := ()) C T dX6_areEdges_24 (by omega) ?_
        exact ⟨_, rfl, (bZ_f (by omega)).symm⟩
      · refine g_iconst C dX6_areEdges_19 ?_
        refine g_goto 24 C dX6_areEdges_20 (by decide) ?_
        refine g_zret (u := ()) C T dX6_areEdges_24 (by omega) ?_
        exact ⟨_, rfl, (bZ_t (by omega)).symm⟩
set_option maxHeartbeats 4000000 in
set_option maxRecDepth 20000 in
theorem c_X7_isSheet (g : Gx) {a b : Int} (h_a : I32 a) (h_b : I32 b) : MC g yX7_isSheet cX7_isSheet 2 ((some .boolean)) 1 25 [] [.int (iZ a), .int (iZ b)] (fun _ : Unit => []) (pI (fun z _ => z = bZ ((0 ≤ a ∧ a ≤ 3) ∧ (0 ≤ b ∧ b ≤ 2)))) := by
  refine MC_intro (own := RX7) rfl (by decide) (Nat.le_of_ble_eq_true rfl) (fun K C T => ?_)
  show GJ g K [] 0 [(0, .int (iZ a)), (1, .int (iZ b))] []
  refine g_iload_n 0 C rfl dX7_isSheet_0 rfl ?_
  refine g_i2l C dX7_isSheet_1 h_a ?_
  refine g_lconst 0 C dX7_isSheet_2 (by decide) ?_
  refine g_ldc2 3 C wk_X7_69 (by decide) dX7_isSheet_3 ?_
  refine g_callSI C (c_X7_in g (v := a) (a := 0) (b := 3) (I64_32 h_a) (by unfold I64; omega) (by unfold I64; omega)) gs_X7_59 yd_X7_in ⟨by decide, by decide⟩ rfl (Nat.le_of_ble_eq_true rfl) dX7_isSheet_6 ?_
  rintro _ rfl
  refine g_beq 28 C dX7_isSheet_9 (by decide) (fun h1 => ?_) (fun h1 => ?_)
  · refine g_iconst C dX7_isSheet_28 ?_
    refine g_zret (u := ()) C T dX7_isSheet_29 (by omega) ?_
    exact ⟨_, rfl, (bZ_f (by omega)).symm⟩
  · refine g_iload_n 1 C rfl dX7_isSheet_12 rfl ?_
    refine g_i2l C dX7_isSheet_13 h_b ?_
    refine g_lconst 0 C dX7_isSheet_14 (by decide) ?_
    refine g_ldc2 2 C wk_X7_55 (by decide) dX7_isSheet_15 ?_
    refine g_callSI C (c_X7_in g (v := b) (a := 0) (b := 2) (I64_32 h_b) (by unfold I64; omega) (by unfold I64; omega)) gs_X7_59 yd_X7_in ⟨by decide, by decide⟩ rfl (Nat.le_of_ble_eq_true rfl) dX7_isSheet_18 ?_
    rintro _ rfl
    refine g_beq 28 C dX7_isSheet_21 (by decide) (fun h2 => ?_) (fun h2 => ?_)
    · refine g_iconst C dX7_isSheet_28 ?_
      refine g_zret (u := ()) C T dX7_isSheet_29 (by omega) ?_
      exact ⟨_, rfl, (bZ_f (by omega)).symm⟩
    · refine g_iconst C dX7_isSheet_24 ?_
      refine g_goto 29 C dX7_isSheet_25 (by decide) ?_
      refine g_zret (u := ()) C T dX7_isSheet_29 (by omega) ?_
      exact ⟨_, rfl, (bZ_t (by omega)).symm⟩
set_option maxHeartbeats 4000000 in
set_option maxRecDepth 20000 in
theorem lp_X7_common {g : Gx} {K : Kx} {a b Z : Int} (C : CX g K cX7_common RX7 10 0 0) (T : RT g K (some .long) (fun _ : Unit => []) (pL (fun z _ => z = Z))) : ∀ (d x y : Nat), y < d → x < 4611686018427387904 → y < 4611686018427387904 → (Nat.gcd x y : Int) = Z → GJ g K [] 28 [(0, .long (lZ a)), (2, .long (lZ b)), (4, .long (lZ (x : Int))), (6, .long (lZ (y : Int)))] [] := by
  intro d
  induction d with
  | zero => intro x y h; omega
  | succ d ih =>
    intro x y hd hx hy hZ
    refine g_lload 3 C rfl dX7_common_28 ?_
    refine g_lconst 0 C dX7_common_30 (by decide) ?_
    refine g_lcmp_eq 53 C (by unfold I64; omega) (by unfold I64; omega) dX7_common_31 dX7_common_32 (by decide) (fun h1 => ?_) (fun h1 => ?_)
    · refine g_lload 2 C rfl dX7_common_53 ?_
      refine g_lret (u := ()) C T dX7_common_55 ?_
      refine ⟨_, rfl, ?_⟩
      have e9 : y = 0 := by omega
      subst e9
      rw [← hZ, Nat.gcd_zero_right]
    · refine g_lload 2 C rfl dX7_common_35 ?_
      refine g_lload 3 C rfl dX7_common_37 ?_
      refine g_lrem C dX7_common_39 (by unfold I64; omega) (by unfold I64; omega) (by omega) ?_
      refine g_lname (fun w2 ew2 => ?_)
      refine g_lstore (lv' := [(0, .long (lZ a)), (2, .long (lZ b)), (4, .long (lZ (x : Int))), (6, .long (lZ (y : Int))), (8, .long (lZ w2))]) [1, 2, 3, 4, 0] C dX7_common_40 (by decide) rfl ?_
      refine g_lload 3 C rfl dX7_common_42 ?_
      refine g_lstore (lv' := [(0, .long (lZ a)), (2, .long (lZ b)), (4, .long (lZ (y : Int))), (6, .long (lZ (y : Int))), (8, .long (lZ w2))]) [1, 2, 0, 3, 4] C dX7_common_44 (by decide) rfl ?_
      refine g_lload 4 C rfl dX7_common_46 ?_
      refine g_lstore (lv' := [(0, .long (lZ a)), (2, .long (lZ b)), (4, .long (lZ (y : Int))), (6, .long (lZ w2)), (8, .long (lZ w2))]) [1, 2, 3, 0, 4] C dX7_common_48 (by decide) rfl ?_
      refine g_goto 28 C dX7_common_50 (by decide) ?_
      have e9 : w2 = ((x % y : Nat) : Int) := by rw [ew2]; exact (Int.ofNat_tmod x y).symm
      subst e9
      refine g_lv [0, 1, 2, 3] rfl ?_
      have hp : 0 < y := by omega
      have hm := Nat.mod_lt x hp
      exact ih y (x % y) (by omega) (by omega) (by omega) (by rw [← hZ, Nat.gcd_comm x y, Nat.gcd_rec y x, Nat.gcd_comm])
set_option maxHeartbeats 4000000 in
set_option maxRecDepth 20000 in
theorem c_X7_common (g : Gx) {a b : Int} (h_a : -4611686018427387904 < a ∧ a < 4611686018427387904) (h_b : -4611686018427387904 < b ∧ b < 4611686018427387904) : MC g yX7_common cX7_common 10 ((some .long)) 0 0 [] [.long (lZ a), .long (lZ b)] (fun _ : Unit => []) (pL (fun z _ => z = ((Nat.gcd a.natAbs b.natAbs : Nat) : Int))) := by
  refine MC_intro (own := RX7) rfl (by decide) (Nat.le_of_ble_eq_true rfl) (fun K C T => ?_)
  show GJ g K [] 0 [(0, .long (lZ a)), (2, .long (lZ b))] []
  refine g_lload_n 0 C rfl dX7_common_0 rfl ?_
  refine g_lconst 0 C dX7_common_1 (by decide) ?_
  refine g_lcmp_ge 11 C (by unfold I64; omega) (by unfold I64; omega) dX7_common_2 dX7_common_3 (by decide) (fun h1 => ?_) (fun h1 => ?_)
  · refine g_lload_n 0 C rfl dX7_common_11 rfl ?_
    refine g_lstore (lv' := [(0, .long (lZ a)), (2, .long (lZ b)), (4, .long (lZ a))]) [1, 2, 0] C dX7_common_12 (by decide) rfl ?_
    refine g_lload_n 1 C rfl dX7_common_14 rfl ?_
    refine g_lconst 0 C dX7_common_15 (by decide) ?_
    refine g_lcmp_ge 25 C (by unfold I64; omega) (by unfold I64; omega) dX7_common_16 dX7_common_17 (by decide) (fun h2 => ?_) (fun h2 => ?_)
    · refine g_lload_n 1 C rfl dX7_common_25 rfl ?_
      refine g_lstore (lv' := [(0, .long (lZ a)), (2, .long (lZ b)), (4, .long (lZ a)), (6, .long (lZ b))]) [1, 2, 3, 0] C dX7_common_26 (by decide) rfl ?_
      have e7 : a = ((a.natAbs : Nat) : Int) := by omega
      have e8 : b = ((b.natAbs : Nat) : Int) := by omega
      rw [e7, e8]
      exact lp_X7_common C T (b.natAbs + 1) a.natAbs b.natAbs (by omega) (by omega) (by omega) rfl
    · refine g_lload_n 1 C rfl dX7_common_20 rfl ?_
      refine g_lneg C dX7_common_21 ?_
      refine g_goto 26 C dX7_common_22 (by decide) ?_
      refine g_lname (fun w3 ew3 => ?_)
      refine g_lstore (lv' := [(0, .long (lZ a)), (2, .long (lZ b)), (4, .long (lZ a)), (6, .long (lZ w3))]) [1, 2, 3, 0] C dX7_common_26 (by decide) rfl ?_
      have e7 : a = ((a.natAbs : Nat) : Int) := by omega
      have e8 : w3 = ((b.natAbs : Nat) : Int) := by omega
      rw [e7, e8]
      exact lp_X7_common C T (b.natAbs + 1) a.natAbs b.natAbs (by omega) (by omega) (by omega) rfl
  · refine g_lload_n 0 C rfl dX7_common_6 rfl ?_
    refine g_lneg C dX7_common_7 ?_
    refine g_goto 12 C dX7_common_8 (by decide) ?_
    refine g_lname (fun w4 ew4 => ?_)
    refine g_lstore (lv' := [(0, .long (lZ a)), (2, .long (lZ b)), (4, .long (lZ w4))]) [1, 2, 0] C dX7_common_12 (by decide) rfl ?_
    refine g_lload_n 1 C rfl dX7_common_14 rfl ?_
    refine g_lconst 0 C dX7_common_15 (by decide) ?_
    refine g_lcmp_ge 25 C (by unfold I64; omega) (by unfold I64; omega) dX7_common_16 dX7_common_17 (by decide) (fun h5 => ?_) (fun h5 => ?_)
    · refine g_lload_n 1 C rfl dX7_common_25 rfl ?_
      refine g_lstore (lv' := [(0, .long (lZ a)), (2, .long (lZ b)), (4, .long (lZ w4)), (6, .long (lZ b))]) [1, 2, 3, 0] C dX7_common_26 (by decide) rfl ?_
      have e7 : w4 = ((a.natAbs : Nat) : Int) := by omega
      have e8 : b = ((b.natAbs : Nat) : Int) := by omega
      rw [e7, e8]
      exact lp_X7_common C T (b.natAbs + 1) a.natAbs b.natAbs (by omega) (by omega) (by omega) rfl
    · refine g_lload_n 1 C rfl dX7_common_20 rfl ?_
      refine g_lneg C dX7_common_21 ?_
      refine g_goto 26 C dX7_common_22 (by decide) ?_
      refine g_lname (fun w6 ew6 => ?_)
      refine g_lstore (lv' := [(0, .long (lZ a)), (2, .long (lZ b)), (4, .long (lZ w4)), (6, .long (lZ w6))]) [1, 2, 3, 0] C dX7_common_26 (by decide) rfl ?_
      have e7 : w4 = ((a.natAbs : Nat) : Int) := by omega
      have e8 : w6 = ((b.natAbs : Nat) : Int) := by omega
      rw [e7, e8]
      exact lp_X7_common C T (b.natAbs + 1) a.natAbs b.natAbs (by omega) (by omega) (by omega) rfl
theorem down_1 {a b : Int} (hb : 0 < b) (h : a.tmod b ≠ 0 ∧ a < 0) : a.tdiv b - 1 = a / b := by
  have h1 := Int.tdiv_mul_add_tmod a b
  have h2 := Int.lt_tmod_of_pos a hb
  have h3 : a.tmod b ≤ 0 := by
    have h4 := Int.tmod_nonneg b (show 0 ≤ -a by omega)
    rw [Int.neg_tmod] at h4
    omega
  have h5 := (Int.ediv_emod_unique (a := a) (b := b) (r := a.tmod b + b) (q := a.tdiv b - 1) hb).mpr ⟨by rw [Int.mul_sub, Int.mul_comm b (a.tdiv b), Int.mul_one]; omega, by omega, by omega⟩
  exact h5.1.symm
theorem down_0 {a b : Int} (hb : 0 < b) (h : a.tmod b = 0 ∨ 0 ≤ a) : a.tdiv b = a / b := by
  have h1 := Int.tdiv_mul_add_tmod a b
  rcases h with h | h
  · have h5 := (Int.ediv_emod_unique (a := a) (b := b) (r := 0) (q := a.tdiv b) hb).mpr ⟨by rw [Int.mul_comm b (a.tdiv b)]; omega, by omega, by omega⟩
    exact h5.1.symm
  · exact Int.tdiv_eq_ediv_of_nonneg h
set_option maxHeartbeats 4000000 in
set_option maxRecDepth 20000 in
theorem c_X7_down (g : Gx) {a b : Int} (h_a : I64 a) (h_B : I64 b) (h_b : 0 < b) : MC g yX7_down cX7_down 6 ((some .long)) 0 0 [] [.long (lZ a), .long (lZ b)] (fun _ : Unit => []) (pL (fun z _ => z = a / b)) := by
  refine MC_intro (own := RX7) rfl (by decide) (Nat.le_of_ble_eq_true rfl) (fun K C T => ?_)
  show GJ g K [] 0 [(0, .long (lZ a)), (2, .long (lZ b))] []
  refine g_lload_n 0 C rfl dX7_down_0 rfl ?_
  refine g_lload_n 1 C rfl dX7_down_1 rfl ?_
  refine g_ldiv C dX7_down_2 h_a h_B (by omega) ?_
  refine g_lname (fun w1 ew1 => ?_)
  refine g_lstore (lv' := [(0, .long (lZ a)), (2, .long (lZ b)), (4, .long (lZ w1))]) [1, 2, 0] C dX7_down_3 (by decide) rfl ?_
  refine g_lload_n 0 C rfl dX7_down_5 rfl ?_
  refine g_lload_n 1 C rfl dX7_down_6 rfl ?_
  refine g_lrem C dX7_down_7 h_a h_B (by omega) ?_
  refine g_lconst 0 C dX7_down_8 (by decide) ?_
  refine g_lcmp_eq 26 C (by have h5 := Int.lt_tmod_of_pos a h_b; have h6 := Int.tmod_lt_of_pos a h_b; unfold I64 at *; omega) (by have h5 := Int.lt_tmod_of_pos a h_b; have h6 := Int.tmod_lt_of_pos a h_b; unfold I64 at *; omega) dX7_down_9 dX7_down_10 (by decide) (fun h2 => ?_) (fun h2 => ?_)
  · refine g_lload 2 C rfl dX7_down_26 ?_
    refine g_lret (u := ()) C T dX7_down_28 ?_
    refine ⟨_, rfl, ?_⟩
    rw [ew1]; exact down_0 h_b (by omega)
  · refine g_lload_n 0 C rfl dX7_down_13 rfl ?_
    refine g_lconst 0 C dX7_down_14 (by decide) ?_
    refine g_lcmp_ge 26 C h_a (by have h5 := Int.lt_tmod_of_pos a h_b; have h6 := Int.tmod_lt_of_pos a h_b; unfold I64 at *; omega) dX7_down_15 dX7_down_16 (by decide) (fun h3 => ?_) (fun h3 => ?_)
    · refine g_lload 2 C rfl dX7_down_26 ?_
      refine g_lret (u := ()) C T dX7_down_28 ?_
      refine ⟨_, rfl, ?_⟩
      rw [ew1]; exact down_0 h_b (by omega)
    · refine g_lload 2 C rfl dX7_down_19 ?_
      refine g_lconst 1 C dX7_down_21 (by decide) ?_
      refine g_lsub C dX7_down_22 ?_
      refine g_goto 28 C dX7_down_23 (by decide) ?_
      refine g_lret (u := ()) C T dX7_down_28 ?_
      refine ⟨_, rfl, ?_⟩
      rw [ew1]; exact down_1 h_b (by omega)
