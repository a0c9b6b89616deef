def cmpZ (u v : Int) : Int := if u < v then -1 else if u = v then 0 else 1
theorem cmpZ_lt {u v : Int} (h : u < v) : cmpZ u v = -1 := by unfold cmpZ; rw [if_pos h]
theorem cmpZ_eq {u v : Int} (h : u = v) : cmpZ u v = 0 := by unfold cmpZ; rw [if_neg (by omega), if_pos h]
theorem cmpZ_gt {u v : Int} (h : v < u) : cmpZ u v = 1 := by unfold cmpZ; rw [if_neg (by omega), if_neg (by omega)]
theorem dv_lt {A B O P : Int} (hB : 0 < B) (hP : 0 < P) (h : A / B < O / P) : A * P < O * B := by
  have h1 : A * P < (A / B + 1) * B * P := Int.mul_lt_mul_of_pos_right (Int.lt_ediv_add_one_mul_self A hB) hP
  have h2 : (A / B + 1) * (B * P) ≤ O / P * (B * P) := Int.mul_le_mul_of_nonneg_right (by omega) (Int.le_of_lt (Int.mul_pos hB hP))
  have h3 : O / P * P * B ≤ O * B := Int.mul_le_mul_of_nonneg_right (Int.ediv_mul_le O (by omega)) (by omega)
  generalize A / B = a at *
  generalize O / P = o at *
  grind
theorem dv_eq {A B O P p : Int} : A * P - O * B = (A - p * B) * P - (O - p * P) * B := by grind
theorem dv_bd {A B : Int} (hB : 0 < B) {M : Int} (h : -M ≤ A ∧ A ≤ M) : -M ≤ A / B ∧ A / B ≤ M := by
  have h1 := Int.lt_ediv_add_one_mul_self A hB
  have h2 := Int.ediv_mul_le A (b := B) (by omega)
  generalize A / B = a at *
  refine ⟨?_, ?_⟩
  · rcases (show a < 0 ∨ 0 ≤ a by omega) with h3 | h3
    · have h4 : (a + 1) * B ≤ (a + 1) * 1 := Int.mul_le_mul_of_nonpos_left (by omega) (by omega)
      omega
    · omega
  · rcases (show 0 < a ∨ a ≤ 0 by omega) with h3 | h3
    · have h4 : a * 1 ≤ a * B := Int.mul_le_mul_of_nonneg_left (by omega) (by omega)
      omega
    · omega
theorem dv_rem {A B : Int} (hB : 0 < B) : 0 ≤ A - A / B * B ∧ A - A / B * B < B := by
  have h1 := Int.lt_ediv_add_one_mul_self A hB
  have h2 := Int.ediv_mul_le A (b := B) (by omega)
  rw [Int.add_mul] at h1
  omega
set_option maxHeartbeats 4000000 in
set_option maxRecDepth 20000 in
theorem lp_X7_compare {g : Gx} {K : Kx} {a x b y Z : Int} (C : CX g K cX7_compare RX7 25 1 25) (T : RT g K (some .int) (fun _ : Unit => []) (pI (fun z _ => z = Z))) : ∀ (d : Nat) (A B O P s : Int), B < d → 0 < B → 0 < P → (-4611686018427387904 < A ∧ A < 4611686018427387904) → B < 4611686018427387904 → (-4611686018427387904 < O ∧ O < 4611686018427387904) → P < 4611686018427387904 → (s = 1 ∨ s = -1) → s * cmpZ (A * P) (O * B) = Z → GJ g K [] 17 [(0, .long (lZ a)), (2, .long (lZ x)), (4, .long (lZ b)), (6, .long (lZ y)), (8, .long (lZ A)), (10, .long (lZ B)), (12, .long (lZ O)), (14, .long (lZ P)), (16, .int (iZ s))] [] := by
  intro d
  induction d with
  | zero => intro A B O P s h h1; omega
  | succ d ih =>
    intro A B O P s hd hB hP hA hB2 hO hP2 hs hZ
    refine g_lload 4 C rfl dX7_compare_17 ?_
    refine g_lload 5 C rfl dX7_compare_19 ?_
    refine g_callSL C (c_X7_down g (a := A) (b := B) (by unfold I64; omega) (by unfold I64; omega) (by omega)) gs_X7_106 yd_X7_down ⟨by decide, by decide⟩ rfl (Nat.le_of_ble_eq_true rfl) dX7_compare_21 ?_
    rintro _ rfl
    refine g_lname (fun w1 ew1 => ?_)
    refine g_lstore (lv' := [(0, .long (lZ a)), (2, .long (lZ x)), (4, .long (lZ b)), (6, .long (lZ y)), (8, .long (lZ A)), (10, .long (lZ B)), (12, .long (lZ O)), (14, .long (lZ P)), (16, .int (iZ s)), (17, .long (lZ w1))]) [1, 2, 3, 4, 5, 6, 7, 8, 9, 0] C dX7_compare_24 (by decide) rfl ?_
    refine g_lload 6 C rfl dX7_compare_26 ?_
    refine g_lload 7 C rfl dX7_compare_28 ?_
    refine g_callSL C (c_X7_down g (a := O) (b := P) (by unfold I64; omega) (by unfold I64; omega) (by omega)) gs_X7_106 yd_X7_down ⟨by decide, by decide⟩ rfl (Nat.le_of_ble_eq_true rfl) dX7_compare_30 ?_
    rintro _ rfl
    refine g_lname (fun w2 ew2 => ?_)
    refine g_lstore (lv' := [(0, .long (lZ a)), (2, .long (lZ x)), (4, .long (lZ b)), (6, .long (lZ y)), (8, .long (lZ A)), (10, .long (lZ B)), (12, .long (lZ O)), (14, .long (lZ P)), (16, .int (iZ s)), (17, .long (lZ w1)), (19, .long (lZ w2))]) [1, 2, 3, 4, 5, 6, 7, 8, 9, 10, 0] C dX7_compare_33 (by decide) rfl ?_
    have hb1 := dv_bd (A := A) hB (M := 4611686018427387904) (by omega)
    have hb2 := dv_bd (A := O) hP (M := 4611686018427387904) (by omega)
    rw [← ew1] at hb1
    rw [← ew2] at hb2
    refine g_lload 9 C rfl dX7_compare_35 ?_
    refine g_lload 10 C rfl dX7_compare_37 ?_
    refine g_lcmp_eq 60 C (by unfold I64; omega) (by unfold I64; omega) dX7_compare_39 dX7_compare_40 (by decide) (fun h3 => ?_) (fun h3 => ?_)
    · refine g_lload 4 C rfl dX7_compare_60 ?_
      refine g_lload 9 C rfl dX7_compare_62 ?_
      refine g_lload 5 C rfl dX7_compare_64 ?_
      refine g_lmul C dX7_compare_66 ?_
      refine g_lsub C dX7_compare_67 ?_
      refine g_lname (fun w4 ew4 => ?_)
      refine g_lstore (lv' := [(0, .long (lZ a)), (2, .long (lZ x)), (4, .long (lZ b)), (6, .long (lZ y)), (8, .long (lZ A)), (10, .long (lZ B)), (12, .long (lZ O)), (14, .long (lZ P)), (16, .int (iZ s)), (17, .long (lZ w1)), (19, .long (lZ w2)), (21, .long (lZ w4))]) [1, 2, 3, 4, 5, 6, 7, 8, 9, 10, 11, 0] C dX7_compare_68 (by decide) rfl ?_
      refine g_lload 6 C rfl dX7_compare_70 ?_
      refine g_lload 10 C rfl dX7_compare_72 ?_
      refine g_lload 7 C rfl dX7_compare_74 ?_
      refine g_lmul C dX7_compare_76 ?_
      refine g_lsub C dX7_compare_77 ?_
      refine g_lname (fun w5 ew5 => ?_)
      refine g_lstore (lv' := [(0, .long (lZ a)), (2, .long (lZ x)), (4, .long (lZ b)), (6, .long (lZ y)), (8, .long (lZ A)), (10, .long (lZ B)), (12, .long (lZ O)), (14, .long (lZ P)), (16, .int (iZ s)), (17, .long (lZ w1)), (19, .long (lZ w2)), (21, .long (lZ w4)), (23, .long (lZ w5))]) [1, 2, 3, 4, 5, 6, 7, 8, 9, 10, 11, 12, 0] C dX7_compare_78 (by decide) rfl ?_
      have hr1 := dv_rem (A := A) hB
      have hr2 := dv_rem (A := O) hP
      rw [← ew1, ← ew4] at hr1
      rw [← ew2, ← ew5] at hr2
      refine g_lload 11 C rfl dX7_compare_80 ?_
      refine g_lconst 0 C dX7_compare_82 (by decide) ?_
      refine g_lcmp_eq 94 C (by unfold I64; omega) (by unfold I64; omega) dX7_compare_83 dX7_compare_84 (by decide) (fun h6 => ?_) (fun h6 => ?_)
      · refine g_lload 11 C rfl dX7_compare_94 ?_
        refine g_lload 12 C rfl dX7_compare_96 ?_
        refine g_lcmp_ne 106 C (by unfold I64; omega) (by unfold I64; omega) dX7_compare_98 dX7_compare_99 (by decide) (fun h7 => ?_) (fun h7 => ?_)
        · refine g_lload 11 C rfl dX7_compare_106 ?_
          refine g_lconst 0 C dX7_compare_108 (by decide) ?_
          refine g_lcmp_ne 119 C (by unfold I64; omega) (by unfold I64; omega) dX7_compare_109 dX7_compare_110 (by decide) (fun h8 => ?_) (fun h8 => ?_)
          · exact absurd h8 (by first | decide | omega)
          refine g_iload 8 C rfl dX7_compare_113 ?_
          refine g_ineg C dX7_compare_115 ?_
          refine g_goto 121 C dX7_compare_116 (by decide) ?_
          refine g_iret (u := ()) C T dX7_compare_121 ?_
          refine ⟨_, rfl, ?_⟩
          rw [← hZ]
          have h9 := dv_eq (A := A) (B := B) (O := O) (P := P) (p := w1)
          rw [show O - w1 * P = w5 from by rw [ew5, show w1 = w2 from by omega], ← ew4] at h9
          have e8 : w4 = 0 := by omega
          rw [e8] at h9
          have h7 : 0 < w5 * B := Int.mul_pos (by omega) hB
          rw [cmpZ_lt (by omega)]; omega
        · refine g_iconst C dX7_compare_102 ?_
          refine g_goto 121 C dX7_compare_103 (by decide) ?_
          refine g_iret (u := ()) C T dX7_compare_121 ?_
          refine ⟨_, rfl, ?_⟩
          rw [← hZ]
          have h9 := dv_eq (A := A) (B := B) (O := O) (P := P) (p := w1)
          rw [show O - w1 * P = w5 from by rw [ew5, show w1 = w2 from by omega], ← ew4] at h9
          have e8 : w4 = 0 := by omega
          have e7 : w5 = 0 := by omega
          rw [e8, e7] at h9
          rw [cmpZ_eq (by omega)]; omega
      · refine g_lload 12 C rfl dX7_compare_87 ?_
        refine g_lconst 0 C dX7_compare_89 (by decide) ?_
        refine g_lcmp_ne 122 C (by unfold I64; omega) (by unfold I64; omega) dX7_compare_90 dX7_compare_91 (by decide) (fun h9 => ?_) (fun h9 => ?_)
        · refine g_lload 5 C rfl dX7_compare_122 ?_
          refine g_lstore (lv' := [(0, .long (lZ a)), (2, .long (lZ x)), (4, .long (lZ b)), (6, .long (lZ y)), (8, .long (lZ B)), (10, .long (lZ B)), (12, .long (lZ O)), (14, .long (lZ P)), (16, .int (iZ s)), (17, .long (lZ w1)), (19, .long (lZ w2)), (21, .long (lZ w4)), (23, .long (lZ w5))]) [1, 2, 3, 4, 0, 5, 6, 7, 8, 9, 10, 11, 12] C dX7_compare_124 (by decide) rfl ?_
          refine g_lload 11 C rfl dX7_compare_126 ?_
          refine g_lstore (lv' := [(0, .long (lZ a)), (2, .long (lZ x)), (4, .long (lZ b)), (6, .long (lZ y)), (8, .long (lZ B)), (10, .long (lZ w4)), (12, .long (lZ O)), (14, .long (lZ P)), (16, .int (iZ s)), (17, .long (lZ w1)), (19, .long (lZ w2)), (21, .long (lZ w4)), (23, .long (lZ w5))]) [1, 2, 3, 4, 5, 0, 6, 7, 8, 9, 10, 11, 12] C dX7_compare_128 (by decide) rfl ?_
          refine g_lload 7 C rfl dX7_compare_130 ?_
          refine g_lstore (lv' := [(0, .long (lZ a)), (2, .long (lZ x)), (4, .long (lZ b)), (6, .long (lZ y)), (8, .long (lZ B)), (10, .long (lZ w4)), (12, .long (lZ P)), (14, .long (lZ P)), (16, .int (iZ s)), (17, .long (lZ w1)), (19, .long (lZ w2)), (21, .long (lZ w4)), (23, .long (lZ w5))]) [1, 2, 3, 4, 5, 6, 0, 7, 8, 9, 10, 11, 12] C dX7_compare_132 (by decide) rfl ?_
          refine g_lload 12 C rfl dX7_compare_134 ?_
          refine g_lstore (lv' := [(0, .long (lZ a)), (2, .long (lZ x)), (4, .long (lZ b)), (6, .long (lZ y)), (8, .long (lZ B)), (10, .long (lZ w4)), (12, .long (lZ P)), (14, .long (lZ w5)), (16, .int (iZ s)), (17, .long (lZ w1)), (19, .long (lZ w2)), (21, .long (lZ w4)), (23, .long (lZ w5))]) [1, 2, 3, 4, 5, 6, 7, 0, 8, 9, 10, 11, 12] C dX7_compare_136 (by decide) rfl ?_
          refine g_iload 8 C rfl dX7_compare_138 ?_
          refine g_ineg C dX7_compare_140 ?_
          refine g_iname (fun w10 ew10 => ?_)
          refine g_istore (lv' := [(0, .long (lZ a)), (2, .long (lZ x)), (4, .long (lZ b)), (6, .long (lZ y)), (8, .long (lZ B)), (10, .long (lZ w4)), (12, .long (lZ P)), (14, .long (lZ w5)), (16, .int (iZ w10)), (17, .long (lZ w1)), (19, .long (lZ w2)), (21, .long (lZ w4)), (23, .long (lZ w5))]) [1, 2, 3, 4, 5, 6, 7, 8, 0, 9, 10, 11, 12] C dX7_compare_141 (by decide) rfl ?_
          refine g_goto 17 C dX7_compare_143 (by decide) ?_
          refine g_lv [0, 1, 2, 3, 4, 5, 6, 7, 8] rfl ?_
          refine ih B w4 P w5 w10 (by omega) (by omega) (by omega) (by omega) (by omega) (by omega) (by omega) (by omega) ?_
          have h9 := dv_eq (A := A) (B := B) (O := O) (P := P) (p := w1)
          rw [show O - w1 * P = w5 from by rw [ew5, show w1 = w2 from by omega], ← ew4] at h9
          rw [← hZ, ew10]
          rcases Int.lt_trichotomy (A * P) (O * B) with h8 | h8 | h8
          · rw [cmpZ_lt h8, cmpZ_gt (by rw [Int.mul_comm P w4, Int.mul_comm B w5]; omega)]; omega
          · rw [cmpZ_eq h8, cmpZ_eq (by rw [Int.mul_comm P w4, Int.mul_comm B w5]; omega)]; omega
          · rw [cmpZ_gt h8, cmpZ_lt (by rw [Int.mul_comm P w4, Int.mul_comm B w5]; omega)]; omega
        · refine g_lload 11 C rfl dX7_compare_94 ?_
          refine g_lload 12 C rfl dX7_compare_96 ?_
          refine g_lcmp_ne 106 C (by unfold I64; omega) (by unfold I64; omega) dX7_compare_98 dX7_compare_99 (by decide) (fun h11 => ?_) (fun h11 => ?_)
          · refine g_lload 11 C rfl dX7_compare_106 ?_
            refine g_lconst 0 C dX7_compare_108 (by decide) ?_
            refine g_lcmp_ne 119 C (by unfold I64; omega) (by unfold I64; omega) dX7_compare_109 dX7_compare_110 (by decide) (fun h12 => ?_) (fun h12 => ?_)
            · refine g_iload 8 C rfl dX7_compare_119 ?_
              refine g_iret (u := ()) C T dX7_compare_121 ?_
              refine ⟨_, rfl, ?_⟩
              rw [← hZ]
              have h9 := dv_eq (A := A) (B := B) (O := O) (P := P) (p := w1)
              rw [show O - w1 * P = w5 from by rw [ew5, show w1 = w2 from by omega], ← ew4] at h9
              have e8 : w5 = 0 := by omega
              rw [e8] at h9
              have h7 : 0 < w4 * P := Int.mul_pos (by omega) hP
              rw [cmpZ_gt (by omega)]; omega
            · exact absurd h12 (by first | decide | omega)
          · refine g_iconst C dX7_compare_102 ?_
            refine g_goto 121 C dX7_compare_103 (by decide) ?_
            refine g_iret (u := ()) C T dX7_compare_121 ?_
            refine ⟨_, rfl, ?_⟩
            rw [← hZ]
            have h9 := dv_eq (A := A) (B := B) (O := O) (P := P) (p := w1)
            rw [show O - w1 * P = w5 from by rw [ew5, show w1 = w2 from by omega], ← ew4] at h9
            have e8 : w4 = 0 := by omega
            have e7 : w5 = 0 := by omega
            rw [e8, e7] at h9
            rw [cmpZ_eq (by omega)]; omega
    · refine g_lload 9 C rfl dX7_compare_43 ?_
      refine g_lload 10 C rfl dX7_compare_45 ?_
      refine g_lcmp_ge 57 C (by unfold I64; omega) (by unfold I64; omega) dX7_compare_47 dX7_compare_48 (by decide) (fun h13 => ?_) (fun h13 => ?_)
      · refine g_iload 8 C rfl dX7_compare_57 ?_
        refine g_iret (u := ()) C T dX7_compare_59 ?_
        refine ⟨_, rfl, ?_⟩
        rw [← hZ]
        rw [cmpZ_gt (dv_lt hP hB (by omega))]; omega
      · refine g_iload 8 C rfl dX7_compare_51 ?_
        refine g_ineg C dX7_compare_53 ?_
        refine g_goto 59 C dX7_compare_54 (by decide) ?_
        refine g_iret (u := ()) C T dX7_compare_59 ?_
        refine ⟨_, rfl, ?_⟩
        rw [← hZ]
        rw [cmpZ_lt (dv_lt hB hP (by omega))]; omega
set_option maxHeartbeats 4000000 in
set_option maxRecDepth 20000 in
theorem c_X7_compare (g : Gx) {a x b y : Int} (hx : 0 < x) (hy : 0 < y) (ha : -4611686018427387904 < a ∧ a < 4611686018427387904) (hx2 : x < 4611686018427387904) (hb : -4611686018427387904 < b ∧ b < 4611686018427387904) (hy2 : y < 4611686018427387904) : MC g yX7_compare cX7_compare 25 ((some .int)) 1 25 [] [.long (lZ a), .long (lZ x), .long (lZ b), .long (lZ y)] (fun _ : Unit => []) (pI (fun z _ => z = cmpZ (a * y) (b * x))) := by
  refine MC_intro (own := RX7) rfl (by decide) (Nat.le_of_ble_eq_true rfl) (fun K C T => ?_)
  show GJ g K [] 0 [(0, .long (lZ a)), (2, .long (lZ x)), (4, .long (lZ b)), (6, .long (lZ y))] []
  refine g_lload_n 0 C rfl dX7_compare_0 rfl ?_
  refine g_lstore (lv' := [(0, .long (lZ a)), (2, .long (lZ x)), (4, .long (lZ b)), (6, .long (lZ y)), (8, .long (lZ a))]) [1, 2, 3, 4, 0] C dX7_compare_1 (by decide) rfl ?_
  refine g_lload_n 1 C rfl dX7_compare_3 rfl ?_
  refine g_lstore (lv' := [(0, .long (lZ a)), (2, .long (lZ x)), (4, .long (lZ b)), (6, .long (lZ y)), (8, .long (lZ a)), (10, .long (lZ x))]) [1, 2, 3, 4, 5, 0] C dX7_compare_4 (by decide) rfl ?_
  refine g_lload 2 C rfl dX7_compare_6 ?_
  refine g_lstore (lv' := [(0, .long (lZ a)), (2, .long (lZ x)), (4, .long (lZ b)), (6, .long (lZ y)), (8, .long (lZ a)), (10, .long (lZ x)), (12, .long (lZ b))]) [1, 2, 3, 4, 5, 6, 0] C dX7_compare_8 (by decide) rfl ?_
  refine g_lload 3 C rfl dX7_compare_10 ?_
  refine g_lstore (lv' := [(0, .long (lZ a)), (2, .long (lZ x)), (4, .long (lZ b)), (6, .long (lZ y)), (8, .long (lZ a)), (10, .long (lZ x)), (12, .long (lZ b)), (14, .long (lZ y))]) [1, 2, 3, 4, 5, 6, 7, 0] C dX7_compare_12 (by decide) rfl ?_
  refine g_iconst C dX7_compare_14 ?_
  refine g_istore (lv' := [(0, .long (lZ a)), (2, .long (lZ x)), (4, .long (lZ b)), (6, .long (lZ y)), (8, .long (lZ a)), (10, .long (lZ x)), (12, .long (lZ b)), (14, .long (lZ y)), (16, .int (iZ 1))]) [1, 2, 3, 4, 5, 6, 7, 8, 0] C dX7_compare_15 (by decide) rfl ?_
  exact lp_X7_compare C T (x.toNat + 1) a x b y 1 (by omega) hx hy ha (by omega) hb (by omega) (Or.inl rfl) (Int.one_mul _)
def sm2 (f : Nat → Nat → Int) (b0 b1 c : Nat) (s t : Int) : Int := f b0 c * s + f b1 c * t
def sm3 (f : Nat → Nat → Int) (b0 b1 b2 c : Nat) (s t u : Int) : Int := f b0 c * s + f b1 c * t + f b2 c * u
def sm4 (f : Nat → Nat → Int) (b0 b1 b2 b3 c : Nat) (s t u v : Int) : Int := f b0 c * s + f b1 c * t + f b2 c * u + f b3 c * v
def Ag2 (f : Nat → Nat → Int) (b0 b1 : Nat) (s t : Int) : Prop := ((0 < s ∧ 0 < t ∧ 0 < sm2 f b0 b1 4 s t) ∨ (s < 0 ∧ t < 0 ∧ sm2 f b0 b1 4 s t < 0)) ∧ sm2 f b0 b1 0 s t = 0 ∧ sm2 f b0 b1 1 s t = 0 ∧ sm2 f b0 b1 2 s t = 0
def Ag3 (f : Nat → Nat → Int) (b0 b1 b2 : Nat) (s t u : Int) : Prop := ((0 < s ∧ 0 < t ∧ 0 < u ∧ 0 < sm3 f b0 b1 b2 4 s t u) ∨ (s < 0 ∧ t < 0 ∧ u < 0 ∧ sm3 f b0 b1 b2 4 s t u < 0)) ∧ sm3 f b0 b1 b2 0 s t u = 0 ∧ sm3 f b0 b1 b2 1 s t u = 0 ∧ sm3 f b0 b1 b2 2 s t u = 0
def Ag4 (f : Nat → Nat → Int) (b0 b1 b2 b3 : Nat) (s t u v : Int) : Prop := ((0 < s ∧ 0 < t ∧ 0 < u ∧ 0 < v ∧ 0 < sm4 f b0 b1 b2 b3 4 s t u v) ∨ (s < 0 ∧ t < 0 ∧ u < 0 ∧ v < 0 ∧ sm4 f b0 b1 b2 b3 4 s t u v < 0)) ∧ sm4 f b0 b1 b2 b3 0 s t u v = 0 ∧ sm4 f b0 b1 b2 b3 1 s t u v = 0 ∧ sm4 f b0 b1 b2 b3 2 s t u v = 0
set_option maxHeartbeats 4000000 in
set_option maxRecDepth 20000 in
theorem c_X7_summed2 (g : Gx) {q : Nat → Nat} {σ : Nat → Nat → Int} {b0 b1 c : Nat} {s t u v : Int} (hb0 : σ 11 0 = (b0 : Int)) (hc0 : b0 < 16) (hb1 : σ 11 1 = (b1 : Int)) (hc1 : b1 < 16) (hc : c < 5) : MC g yX7_summed cX7_summed 13 ((some .long)) 0 0 (WM g q σ) [.ref (q 0), .int (iZ 2), .int (iZ (c : Int)), .long (lZ s), .long (lZ t), .long (lZ u), .long (lZ v)] (fun _ : Unit => WM g q σ) (pL (fun z _ => z = sm2 (rwf σ) b0 b1 c s t)) := by
  refine MC_intro (own := RX7) rfl (by decide) (Nat.le_of_ble_eq_true rfl) (fun K C T => ?_)
  show GJ g K (WM g q σ) 0 [(0, .ref (q 0)), (1, .int (iZ 2)), (2, .int (iZ (c : Int))), (3, .long (lZ s)), (5, .long (lZ t)), (7, .long (lZ u)), (9, .long (lZ v))] []
  refine g_aload_n 0 C rfl dX7_summed_0 rfl ?_
  refine gf_X7_35 C dX7_summed_1 ?_
  refine g_iconst C dX7_summed_4 ?_
  refine g_aload_n 0 C rfl dX7_summed_5 rfl ?_
  refine gf_X7_45 C dX7_summed_6 ?_
  refine g_iconst C dX7_summed_9 ?_
  refine g_iald C 11 0 (by decide) (fun _ => rfl) (by omega) (by omega) (by decide) dX7_summed_10 ?_
  rw [show σ 11 0 = (b0 : Int) from hb0]
  refine g_imul C dX7_summed_11 ?_
  refine g_iload_n 2 C rfl dX7_summed_12 rfl ?_
  refine g_iadd C dX7_summed_13 ?_
  refine g_lald C 8 ((5 * b0) + c) (by decide) (fun _ => rfl) (by omega) (by omega) (by decide) dX7_summed_14 ?_
  refine g_lload_n 3 C rfl dX7_summed_15 rfl ?_
  refine g_lmul C dX7_summed_16 ?_
  refine g_aload_n 0 C rfl dX7_summed_17 rfl ?_
  refine gf_X7_35 C dX7_summed_18 ?_
  refine g_iconst C dX7_summed_21 ?_
  refine g_aload_n 0 C rfl dX7_summed_22 rfl ?_
  refine gf_X7_45 C dX7_summed_23 ?_
  refine g_iconst C dX7_summed_26 ?_
  refine g_iald C 11 1 (by decide) (fun _ => rfl) (by omega) (by omega) (by decide) dX7_summed_27 ?_
  rw [show σ 11 1 = (b1 : Int) from hb1]
  refine g_imul C dX7_summed_28 ?_
  refine g_iload_n 2 C rfl dX7_summed_29 rfl ?_
  refine g_iadd C dX7_summed_30 ?_
  refine g_lald C 8 ((5 * b1) + c) (by decide) (fun _ => rfl) (by omega) (by omega) (by decide) dX7_summed_31 ?_
  refine g_lload 4 C rfl dX7_summed_32 ?_
  refine g_lmul C dX7_summed_34 ?_
  refine g_ladd C dX7_summed_35 ?_
  refine g_lname (fun w1 ew1 => ?_)
  refine g_lstore (lv' := [(0, .ref (q 0)), (1, .int (iZ 2)), (2, .int (iZ (c : Int))), (3, .long (lZ s)), (5, .long (lZ t)), (7, .long (lZ u)), (9, .long (lZ v)), (11, .long (lZ w1))]) [1, 2, 3, 4, 5, 6, 7, 0] C dX7_summed_36 (by decide) rfl ?_
  refine g_lload 7 C rfl dX7_summed_38 ?_
  refine g_iload_n 1 C rfl dX7_summed_40 rfl ?_
  refine g_iconst C dX7_summed_41 ?_
  refine g_icmp_le 66 C (by unfold I32; omega) (by unfold I32; omega) dX7_summed_42 (by decide) (fun h2 => ?_) (fun h2 => ?_)
  · refine g_lconst 0 C dX7_summed_66 (by decide) ?_
    refine g_ladd C dX7_summed_67 ?_
    refine g_lname (fun w3 ew3 => ?_)
    refine g_lstore (lv' := [(0, .ref (q 0)), (1, .int (iZ 2)), (2, .int (iZ (c : Int))), (3, .long (lZ s)), (5, .long (lZ t)), (7, .long (lZ u)), (9, .long (lZ v)), (11, .long (lZ w3))]) [1, 2, 3, 4, 5, 6, 7, 0] C dX7_summed_68 (by decide) rfl ?_
    refine g_iload_n 1 C rfl dX7_summed_70 rfl ?_
    refine g_iconst C dX7_summed_71 ?_
    refine g_icmp_le 99 C (by unfold I32; omega) (by unfold I32; omega) dX7_summed_72 (by decide) (fun h4 => ?_) (fun h4 => ?_)
    · refine g_lload 7 C rfl dX7_summed_99 ?_
      refine g_lret (u := ()) C T dX7_summed_101 ?_
      refine ⟨_, rfl, ?_⟩
      subst ew3
      subst ew1
      exact Int.add_zero _
    · exact absurd h4 (by first | decide | omega)
  · exact absurd h2 (by first | decide | omega)
set_option maxHeartbeats 4000000 in
set_option maxRecDepth 20000 in
theorem c_X7_isAgainst2 (g : Gx) {q : Nat → Nat} {σ : Nat → Nat → Int} {b0 b1 : Nat} {s t u v : Int} (hb0 : σ 11 0 = (b0 : Int)) (hc0 : b0 < 16) (hb1 : σ 11 1 = (b1 : Int)) (hc1 : b1 < 16) (h_s : -4611686018427387904 < s ∧ s < 4611686018427387904) (h_t : -4611686018427387904 < t ∧ t < 4611686018427387904) (hS : ∀ c, c < 5 → -4611686018427387904 < sm2 (rwf σ) b0 b1 c s t ∧ sm2 (rwf σ) b0 b1 c s t < 4611686018427387904) : MC g yX7_isAgainst cX7_isAgainst 14 ((some .boolean)) 1 32 (WM g q σ) [.ref (q 0), .int (iZ 2), .long (lZ s), .long (lZ t), .long (lZ u), .long (lZ v)] (fun _ : Unit => WM g q σ) (pI (fun z _ => z = bZ (Ag2 (rwf σ) b0 b1 s t))) := by
  refine MC_intro (own := RX7) rfl (by decide) (Nat.le_of_ble_eq_true rfl) (fun K C T => ?_)
  show GJ g K (WM g q σ) 0 [(0, .ref (q 0)), (1, .int (iZ 2)), (2, .long (lZ s)), (4, .long (lZ t)), (6, .long (lZ u)), (8, .long (lZ v))] []
  refine g_lload_n 2 C rfl dX7_isAgainst_0 rfl ?_
  refine g_lconst 0 C dX7_isAgainst_1 (by decide) ?_
  refine g_lcmp_le 10 C (by unfold I64; omega) (by unfold I64; omega) dX7_isAgainst_2 dX7_isAgainst_3 (by decide) (fun h1 => ?_) (fun h1 => ?_)
  · refine g_ldc2 (-1) C wk_X7_144 (by decide) dX7_isAgainst_10 ?_
    refine g_lstore (lv' := [(0, .ref (q 0)), (1, .int (iZ 2)), (2, .long (lZ s)), (4, .long (lZ t)), (6, .long (lZ u)), (8, .long (lZ v)), (10, .long (lZ (-1)))]) [1, 2, 3, 4, 5, 6, 0] C dX7_isAgainst_13 (by decide) rfl ?_
    refine g_lload_n 2 C rfl dX7_isAgainst_15 rfl ?_
    refine g_lload 6 C rfl dX7_isAgainst_16 ?_
    refine g_lmul C dX7_isAgainst_18 ?_
    refine g_lconst 0 C dX7_isAgainst_19 (by decide) ?_
    refine g_lcmp_le 68 C (by unfold I64; omega) (by unfold I64; omega) dX7_isAgainst_20 dX7_isAgainst_21 (by decide) (fun h2 => ?_) (fun h2 => ?_)
    · refine g_iconst C dX7_isAgainst_68 ?_
      refine g_istore (lv' := [(0, .ref (q 0)), (1, .int (iZ 2)), (2, .long (lZ s)), (4, .long (lZ t)), (6, .long (lZ u)), (8, .long (lZ v)), (10, .long (lZ (-1))), (12, .int (iZ 0))]) [1, 2, 3, 4, 5, 6, 7, 0] C dX7_isAgainst_69 (by decide) rfl ?_
      refine g_iload 7 C rfl dX7_isAgainst_71 ?_
      refine g_if_ne 78 C (by unfold I32; omega) dX7_isAgainst_73 (by decide) (fun h3 => ?_) (fun h3 => ?_)
      · exact absurd h3 (by first | decide | omega)
      refine g_iconst C dX7_isAgainst_76 ?_
      refine g_zret (u := ()) C T dX7_isAgainst_77 (by omega) ?_
      exact ⟨_, rfl, (bZ_f (by unfold Ag2; omega)).symm⟩
    · refine g_lload 3 C rfl dX7_isAgainst_24 ?_
      refine g_lload 6 C rfl dX7_isAgainst_26 ?_
      refine g_lmul C dX7_isAgainst_28 ?_
      refine g_lconst 0 C dX7_isAgainst_29 (by decide) ?_
      refine g_lcmp_le 68 C (by unfold I64; omega) (by unfold I64; omega) dX7_isAgainst_30 dX7_isAgainst_31 (by decide) (fun h4 => ?_) (fun h4 => ?_)
      · refine g_iconst C dX7_isAgainst_68 ?_
        refine g_istore (lv' := [(0, .ref (q 0)), (1, .int (iZ 2)), (2, .long (lZ s)), (4, .long (lZ t)), (6, .long (lZ u)), (8, .long (lZ v)), (10, .long (lZ (-1))), (12, .int (iZ 0))]) [1, 2, 3, 4, 5, 6, 7, 0] C dX7_isAgainst_69 (by decide) rfl ?_
        refine g_iload 7 C rfl dX7_isAgainst_71 ?_
        refine g_if_ne 78 C (by unfold I32; omega) dX7_isAgainst_73 (by decide) (fun h5 => ?_) (fun h5 => ?_)
        · exact absurd h5 (by first | decide | omega)
        refine g_iconst C dX7_isAgainst_76 ?_
        refine g_zret (u := ()) C T dX7_isAgainst_77 (by omega) ?_
        exact ⟨_, rfl, (bZ_f (by unfold Ag2; omega)).symm⟩
      · refine g_iload_n 1 C rfl dX7_isAgainst_34 rfl ?_
        refine g_iconst C dX7_isAgainst_35 ?_
        refine g_icmp_lt 49 C (by unfold I32; omega) (by unfold I32; omega) dX7_isAgainst_36 (by decide) (fun h6 => ?_) (fun h6 => ?_)
        · refine g_iload_n 1 C rfl dX7_isAgainst_49 rfl ?_
          refine g_iconst C dX7_isAgainst_50 ?_
          refine g_icmp_lt 64 C (by unfold I32; omega) (by unfold I32; omega) dX7_isAgainst_51 (by decide) (fun h7 => ?_) (fun h7 => ?_)
          · refine g_iconst C dX7_isAgainst_64 ?_
            refine g_goto 69 C dX7_isAgainst_65 (by decide) ?_
            refine g_istore (lv' := [(0, .ref (q 0)), (1, .int (iZ 2)), (2, .long (lZ s)), (4, .long (lZ t)), (6, .long (lZ u)), (8, .long (lZ v)), (10, .long (lZ (-1))), (12, .int (iZ 1))]) [1, 2, 3, 4, 5, 6, 7, 0] C dX7_isAgainst_69 (by decide) rfl ?_
            refine g_iload 7 C rfl dX7_isAgainst_71 ?_
            refine g_if_ne 78 C (by unfold I32; omega) dX7_isAgainst_73 (by decide) (fun h8 => ?_) (fun h8 => ?_)
            · refine g_iconst C dX7_isAgainst_78 ?_
              refine g_istore (lv' := [(0, .ref (q 0)), (1, .int (iZ 2)), (2, .long (lZ s)), (4, .long (lZ t)), (6, .long (lZ u)), (8, .long (lZ v)), (10, .long (lZ (-1))), (12, .int (iZ 1)), (13, .int (iZ 0))]) [1, 2, 3, 4, 5, 6, 7, 8, 0] C dX7_isAgainst_79 (by decide) rfl ?_
              refine g_iload 8 C rfl dX7_isAgainst_81 ?_
              refine g_iconst C dX7_isAgainst_83 ?_
              refine g_icmp_ge 114 C (by unfold I32; omega) (by unfold I32; omega) dX7_isAgainst_84 (by decide) (fun h9 => ?_) (fun h9 => ?_)
              · exact absurd h9 (by first | decide | omega)
              refine g_aload_n 0 C rfl dX7_isAgainst_87 rfl ?_
              refine g_iload_n 1 C rfl dX7_isAgainst_88 rfl ?_
              refine g_iload 8 C rfl dX7_isAgainst_89 ?_
              refine g_lload_n 2 C rfl dX7_isAgainst_91 rfl ?_
              refine g_lload 3 C rfl dX7_isAgainst_92 ?_
              refine g_lload 4 C rfl dX7_isAgainst_94 ?_
              refine g_lload 5 C rfl dX7_isAgainst_96 ?_
              refine g_callL C (c_X7_summed2 g (c := 0) hb0 hc0 hb1 hc1 (by decide)) gv_X7_159 yd_X7_summed ⟨by decide, by decide⟩ 0 7 (WD_get (by decide)) rfl rfl (Nat.le_of_ble_eq_true rfl) dX7_isAgainst_98 ?_
              rintro _ _ rfl
              refine g_lconst 0 C dX7_isAgainst_101 (by decide) ?_
              refine g_lcmp_eq 108 C (by have h5 := hS 0 (by decide); unfold I64; omega) (by unfold I64; omega) dX7_isAgainst_102 dX7_isAgainst_103 (by decide) (fun h10 => ?_) (fun h10 => ?_)
              · refine g_iinc (lv' := [(0, .ref (q 0)), (1, .int (iZ 2)), (2, .long (lZ s)), (4, .long (lZ t)), (6, .long (lZ u)), (8, .long (lZ v)), (10, .long (lZ (-1))), (12, .int (iZ 1)), (13, .int (iZ 1))]) 8 [1, 2, 3, 4, 5, 6, 7, 8, 0] C rfl dX7_isAgainst_108 (by decide) rfl ?_
                refine g_goto 81 C dX7_isAgainst_111 (by decide) ?_
                refine g_iload 8 C rfl dX7_isAgainst_81 ?_
                refine g_iconst C dX7_isAgainst_83 ?_
                refine g_icmp_ge 114 C (by unfold I32; omega) (by unfold I32; omega) dX7_isAgainst_84 (by decide) (fun h11 => ?_) (fun h11 => ?_)
                · exact absurd h11 (by first | decide | omega)
                refine g_aload_n 0 C rfl dX7_isAgainst_87 rfl ?_
                refine g_iload_n 1 C rfl dX7_isAgainst_88 rfl ?_
                refine g_iload 8 C rfl dX7_isAgainst_89 ?_
                refine g_lload_n 2 C rfl dX7_isAgainst_91 rfl ?_
                refine g_lload 3 C rfl dX7_isAgainst_92 ?_
                refine g_lload 4 C rfl dX7_isAgainst_94 ?_
                refine g_lload 5 C rfl dX7_isAgainst_96 ?_
                refine g_callL C (c_X7_summed2 g (c := 1) hb0 hc0 hb1 hc1 (by decide)) gv_X7_159 yd_X7_summed ⟨by decide, by decide⟩ 0 7 (WD_get (by decide)) rfl rfl (Nat.le_of_ble_eq_true rfl) dX7_isAgainst_98 ?_
                rintro _ _ rfl
                refine g_lconst 0 C dX7_isAgainst_101 (by decide) ?_
                refine g_lcmp_eq 108 C (by have h5 := hS 1 (by decide); unfold I64; omega) (by unfold I64; omega) dX7_isAgainst_102 dX7_isAgainst_103 (by decide) (fun h12 => ?_) (fun h12 => ?_)
                · refine g_iinc (lv' := [(0, .ref (q 0)), (1, .int (iZ 2)), (2, .long (lZ s)), (4, .long (lZ t)), (6, .long (lZ u)), (8, .long (lZ v)), (10, .long (lZ (-1))), (12, .int (iZ 1)), (13, .int (iZ 2))]) 8 [1, 2, 3, 4, 5, 6, 7, 8, 0] C rfl dX7_isAgainst_108 (by decide) rfl ?_
                  refine g_goto 81 C dX7_isAgainst_111 (by decide) ?_
                  refine g_iload 8 C rfl dX7_isAgainst_81 ?_
                  refine g_iconst C dX7_isAgainst_83 ?_
                  refine g_icmp_ge 114 C (by unfold I32; omega) (by unfold I32; omega) dX7_isAgainst_84 (by decide) (fun h13 => ?_) (fun h13 => ?_)
                  · exact absurd h13 (by first | decide | omega)
                  refine g_aload_n 0 C rfl dX7_isAgainst_87 rfl ?_
                  refine g_iload_n 1 C rfl dX7_isAgainst_88 rfl ?_
                  refine g_iload 8 C rfl dX7_isAgainst_89 ?_
                  refine g_lload_n 2 C rfl dX7_isAgainst_91 rfl ?_
                  refine g_lload 3 C rfl dX7_isAgainst_92 ?_
                  refine g_lload 4 C rfl dX7_isAgainst_94 ?_
                  refine g_lload 5 C rfl dX7_isAgainst_96 ?_
                  refine g_callL C (c_X7_summed2 g (c := 2) hb0 hc0 hb1 hc1 (by decide)) gv_X7_159 yd_X7_summed ⟨by decide, by decide⟩ 0 7 (WD_get (by decide)) rfl rfl (Nat.le_of_ble_eq_true rfl) dX7_isAgainst_98 ?_
                  rintro _ _ rfl
                  refine g_lconst 0 C dX7_isAgainst_101 (by decide) ?_
                  refine g_lcmp_eq 108 C (by have h5 := hS 2 (by decide); unfold I64; omega) (by unfold I64; omega) dX7_isAgainst_102 dX7_isAgainst_103 (by decide) (fun h14 => ?_) (fun h14 => ?_)
                  · refine g_iinc (lv' := [(0, .ref (q 0)), (1, .int (iZ 2)), (2, .long (lZ s)), (4, .long (lZ t)), (6, .long (lZ u)), (8, .long (lZ v)), (10, .long (lZ (-1))), (12, .int (iZ 1)), (13, .int (iZ 3))]) 8 [1, 2, 3, 4, 5, 6, 7, 8, 0] C rfl dX7_isAgainst_108 (by decide) rfl ?_
                    refine g_goto 81 C dX7_isAgainst_111 (by decide) ?_
                    refine g_iload 8 C rfl dX7_isAgainst_81 ?_
                    refine g_iconst C dX7_isAgainst_83 ?_
                    refine g_icmp_ge 114 C (by unfold I32; omega) (by unfold I32; omega) dX7_isAgainst_84 (by decide) (fun h15 => ?_) (fun h15 => ?_)
                    · refine g_aload_n 0 C rfl dX7_isAgainst_114 rfl ?_
                      refine g_iload_n 1 C rfl dX7_isAgainst_115 rfl ?_
                      refine g_iconst C dX7_isAgainst_116 ?_
                      refine g_lload_n 2 C rfl dX7_isAgainst_117 rfl ?_
                      refine g_lload 3 C rfl dX7_isAgainst_118 ?_
                      refine g_lload 4 C rfl dX7_isAgainst_120 ?_
                      refine g_lload 5 C rfl dX7_isAgainst_122 ?_
                      refine g_callL C (c_X7_summed2 g (c := 4) hb0 hc0 hb1 hc1 (by decide)) gv_X7_159 yd_X7_summed ⟨by decide, by decide⟩ 0 7 (WD_get (by decide)) rfl rfl (Nat.le_of_ble_eq_true rfl) dX7_isAgainst_124 ?_
                      rintro _ _ rfl
                      refine g_lload 6 C rfl dX7_isAgainst_127 ?_
                      refine g_lmul C dX7_isAgainst_129 ?_
                      refine g_lconst 0 C dX7_isAgainst_130 (by decide) ?_
                      refine g_lcmp_le 139 C (by have h5 := hS 4 (by decide); unfold I64; omega) (by unfold I64; omega) dX7_isAgainst_131 dX7_isAgainst_132 (by decide) (fun h16 => ?_) (fun h16 => ?_)
                      · refine g_iconst C dX7_isAgainst_139 ?_
                        refine g_zret (u := ()) C T dX7_isAgainst_140 (by omega) ?_
                        exact ⟨_, rfl, (bZ_f (by unfold Ag2; omega)).symm⟩
                      · refine g_iconst C dX7_isAgainst_135 ?_
                        refine g_goto 140 C dX7_isAgainst_136 (by decide) ?_
                        refine g_zret (u := ()) C T dX7_isAgainst_140 (by omega) ?_
                        exact ⟨_, rfl, (bZ_t (by unfold Ag2; omega)).symm⟩
                    · exact absurd h15 (by first | decide | omega)
                  · refine g_iconst C dX7_isAgainst_106 ?_
                    refine g_zret (u := ()) C T dX7_isAgainst_107 (by omega) ?_
                    exact ⟨_, rfl, (bZ_f (by unfold Ag2; omega)).symm⟩
                · refine g_iconst C dX7_isAgainst_106 ?_
                  refine g_zret (u := ()) C T dX7_isAgainst_107 (by omega) ?_
                  exact ⟨_, rfl, (bZ_f (by unfold Ag2; omega)).symm⟩
              · refine g_iconst C dX7_isAgainst_106 ?_
                refine g_zret (u := ()) C T dX7_isAgainst_107 (by omega) ?_
                exact ⟨_, rfl, (bZ_f (by unfold Ag2; omega)).symm⟩
            · exact absurd h8 (by first | decide | omega)
          · exact absurd h7 (by first | decide | omega)
        · exact absurd h6 (by first | decide | omega)
  · refine g_lconst 1 C dX7_isAgainst_6 (by decide) ?_
    refine g_goto 13 C dX7_isAgainst_7 (by decide) ?_
    refine g_lstore (lv' := [(0, .ref (q 0)), (1, .int (iZ 2)), (2, .long (lZ s)), (4, .long (lZ t)), (6, .long (lZ u)), (8, .long (lZ v)), (10, .long (lZ 1))]) [1, 2, 3, 4, 5, 6, 0] C dX7_isAgainst_13 (by decide) rfl ?_
    refine g_lload_n 2 C rfl dX7_isAgainst_15 rfl ?_
    refine g_lload 6 C rfl dX7_isAgainst_16 ?_
    refine g_lmul C dX7_isAgainst_18 ?_
    refine g_lconst 0 C dX7_isAgainst_19 (by decide) ?_
    refine g_lcmp_le 68 C (by unfold I64; omega) (by unfold I64; omega) dX7_isAgainst_20 dX7_isAgainst_21 (by decide) (fun h17 => ?_) (fun h17 => ?_)
    · refine g_iconst C dX7_isAgainst_68 ?_
      refine g_istore (lv' := [(0, .ref (q 0)), (1, .int (iZ 2)), (2, .long (lZ s)), (4, .long (lZ t)), (6, .long (lZ u)), (8, .long (lZ v)), (10, .long (lZ 1)), (12, .int (iZ 0))]) [1, 2, 3, 4, 5, 6, 7, 0] C dX7_isAgainst_69 (by decide) rfl ?_
      refine g_iload 7 C rfl dX7_isAgainst_71 ?_
      refine g_if_ne 78 C (by unfold I32; omega) dX7_isAgainst_73 (by decide) (fun h18 => ?_) (fun h18 => ?_)
      · exact absurd h18 (by first | decide | omega)
      refine g_iconst C dX7_isAgainst_76 ?_
      refine g_zret (u := ()) C T dX7_isAgainst_77 (by omega) ?_
      exact ⟨_, rfl, (bZ_f (by unfold Ag2; omega)).symm⟩
    · refine g_lload 3 C rfl dX7_isAgainst_24 ?_
      refine g_lload 6 C rfl dX7_isAgainst_26 ?_
      refine g_lmul C dX7_isAgainst_28 ?_
      refine g_lconst 0 C dX7_isAgainst_29 (by decide) ?_
      refine g_lcmp_le 68 C (by unfold I64; omega) (by unfold I64; omega) dX7_isAgainst_30 dX7_isAgainst_31 (by decide) (fun h19 => ?_) (fun h19 => ?_)
      · refine g_iconst C dX7_isAgainst_68 ?_
        refine g_istore (lv' := [(0, .ref (q 0)), (1, .int (iZ 2)), (2, .long (lZ s)), (4, .long (lZ t)), (6, .long (lZ u)), (8, .long (lZ v)), (10, .long (lZ 1)), (12, .int (iZ 0))]) [1, 2, 3, 4, 5, 6, 7, 0] C dX7_isAgainst_69 (by decide) rfl ?_
        refine g_iload 7 C rfl dX7_isAgainst_71 ?_
        refine g_if_ne 78 C (by unfold I32; omega) dX7_isAgainst_73 (by decide) (fun h20 => ?_) (fun h20 => ?_)
        · exact absurd h20 (by first | decide | omega)
        refine g_iconst C dX7_isAgainst_76 ?_
        refine g_zret (u := ()) C T dX7_isAgainst_77 (by omega) ?_
        exact ⟨_, rfl, (bZ_f (by unfold Ag2; omega)).symm⟩
      · refine g_iload_n 1 C rfl dX7_isAgainst_34 rfl ?_
        refine g_iconst C dX7_isAgainst_35 ?_
        refine g_icmp_lt 49 C (by unfold I32; omega) (by unfold I32; omega) dX7_isAgainst_36 (by decide) (fun h21 => ?_) (fun h21 => ?_)
        · refine g_iload_n 1 C rfl dX7_isAgainst_49 rfl ?_
          refine g_iconst C dX7_isAgainst_50 ?_
          refine g_icmp_lt 64 C (by unfold I32; omega) (by unfold I32; omega) dX7_isAgainst_51 (by decide) (fun h22 => ?_) (fun h22 => ?_)
          · refine g_iconst C dX7_isAgainst_64 ?_
            refine g_goto 69 C dX7_isAgainst_65 (by decide) ?_
            refine g_istore (lv' := [(0, .ref (q 0)), (1, .int (iZ 2)), (2, .long (lZ s)), (4, .long (lZ t)), (6, .long (lZ u)), (8, .long (lZ v)), (10, .long (lZ 1)), (12, .int (iZ 1))]) [1, 2, 3, 4, 5, 6, 7, 0] C dX7_isAgainst_69 (by decide) rfl ?_
            refine g_iload 7 C rfl dX7_isAgainst_71 ?_
            refine g_if_ne 78 C (by unfold I32; omega) dX7_isAgainst_73 (by decide) (fun h23 => ?_) (fun h23 => ?_)
            · refine g_iconst C dX7_isAgainst_78 ?_
              refine g_istore (lv' := [(0, .ref (q 0)), (1, .int (iZ 2)), (2, .long (lZ s)), (4, .long (lZ t)), (6, .long (lZ u)), (8, .long (lZ v)), (10, .long (lZ 1)), (12, .int (iZ 1)), (13, .int (iZ 0))]) [1, 2, 3, 4, 5, 6, 7, 8, 0] C dX7_isAgainst_79 (by decide) rfl ?_
              refine g_iload 8 C rfl dX7_isAgainst_81 ?_
              refine g_iconst C dX7_isAgainst_83 ?_
              refine g_icmp_ge 114 C (by unfold I32; omega) (by unfold I32; omega) dX7_isAgainst_84 (by decide) (fun h24 => ?_) (fun h24 => ?_)
              · exact absurd h24 (by first | decide | omega)
              refine g_aload_n 0 C rfl dX7_isAgainst_87 rfl ?_
              refine g_iload_n 1 C rfl dX7_isAgainst_88 rfl ?_
              refine g_iload 8 C rfl dX7_isAgainst_89 ?_
              refine g_lload_n 2 C rfl dX7_isAgainst_91 rfl ?_
              refine g_lload 3 C rfl dX7_isAgainst_92 ?_
              refine g_lload 4 C rfl dX7_isAgainst_94 ?_
              refine g_lload 5 C rfl dX7_isAgainst_96 ?_
              refine g_callL C (c_X7_summed2 g (c := 0) hb0 hc0 hb1 hc1 (by decide)) gv_X7_159 yd_X7_summed ⟨by decide, by decide⟩ 0 7 (WD_get (by decide)) rfl rfl (Nat.le_of_ble_eq_true rfl) dX7_isAgainst_98 ?_
              rintro _ _ rfl
              refine g_lconst 0 C dX7_isAgainst_101 (by decide) ?_
              refine g_lcmp_eq 108 C (by have h5 := hS 0 (by decide); unfold I64; omega) (by unfold I64; omega) dX7_isAgainst_102 dX7_isAgainst_103 (by decide) (fun h25 => ?_) (fun h25 => ?_)
              · refine g_iinc (lv' := [(0, .ref (q 0)), (1, .int (iZ 2)), (2, .long (lZ s)), (4, .long (lZ t)), (6, .long (lZ u)), (8, .long (lZ v)), (10, .long (lZ 1)), (12, .int (iZ 1)), (13, .int (iZ 1))]) 8 [1, 2, 3, 4, 5, 6, 7, 8, 0] C rfl dX7_isAgainst_108 (by decide) rfl ?_
                refine g_goto 81 C dX7_isAgainst_111 (by decide) ?_
                refine g_iload 8 C rfl dX7_isAgainst_81 ?_
                refine g_iconst C dX7_isAgainst_83 ?_
                refine g_icmp_ge 114 C (by unfold I32; omega) (by unfold I32; omega) dX7_isAgainst_84 (by decide) (fun h26 => ?_) (fun h26 => ?_)
                · exact absurd h26 (by first | decide | omega)
                refine g_aload_n 0 C rfl dX7_isAgainst_87 rfl ?_
                refine g_iload_n 1 C rfl dX7_isAgainst_88 rfl ?_
                refine g_iload 8 C rfl dX7_isAgainst_89 ?_
                refine g_lload_n 2 C rfl dX7_isAgainst_91 rfl ?_
                refine g_lload 3 C rfl dX7_isAgainst_92 ?_
                refine g_lload 4 C rfl dX7_isAgainst_94 ?_
                refine g_lload 5 C rfl dX7_isAgainst_96 ?_
                refine g_callL C (c_X7_summed2 g (c := 1) hb0 hc0 hb1 hc1 (by decide)) gv_X7_159 yd_X7_summed ⟨by decide, by decide⟩ 0 7 (WD_get (by decide)) rfl rfl (Nat.le_of_ble_eq_true rfl) dX7_isAgainst_98 ?_
                rintro _ _ rfl
                refine g_lconst 0 C dX7_isAgainst_101 (by decide) ?_
                refine g_lcmp_eq 108 C (by have h5 := hS 1 (by decide); unfold I64; omega) (by unfold I64; omega) dX7_isAgainst_102 dX7_isAgainst_103 (by decide) (fun h27 => ?_) (fun h27 => ?_)
                · refine g_iinc (lv' := [(0, .ref (q 0)), (1, .int (iZ 2)), (2, .long (lZ s)), (4, .long (lZ t)), (6, .long (lZ u)), (8, .long (lZ v)), (10, .long (lZ 1)), (12, .int (iZ 1)), (13, .int (iZ 2))]) 8 [1, 2, 3, 4, 5, 6, 7, 8, 0] C rfl dX7_isAgainst_108 (by decide) rfl ?_
                  refine g_goto 81 C dX7_isAgainst_111 (by decide) ?_
                  refine g_iload 8 C rfl dX7_isAgainst_81 ?_
                  refine g_iconst C dX7_isAgainst_83 ?_
                  refine g_icmp_ge 114 C (by unfold I32; omega) (by unfold I32; omega) dX7_isAgainst_84 (by decide) (fun h28 => ?_) (fun h28 => ?_)
                  · exact absurd h28 (by first | decide | omega)
                  refine g_aload_n 0 C rfl dX7_isAgainst_87 rfl ?_
                  refine g_iload_n 1 C rfl dX7_isAgainst_88 rfl ?_
                  refine g_iload 8 C rfl dX7_isAgainst_89 ?_
                  refine g_lload_n 2 C rfl dX7_isAgainst_91 rfl ?_
                  refine g_lload 3 C rfl dX7_isAgainst_92 ?_
                  refine g_lload 4 C rfl dX7_isAgainst_94 ?_
                  refine g_lload 5 C rfl dX7_isAgainst_96 ?_
                  refine g_callL C (c_X7_summed2 g (c := 2) hb0 hc0 hb1 hc1 (by decide)) gv_X7_159 yd_X7_summed ⟨by decide, by decide⟩ 0 7 (WD_get (by decide)) rfl rfl (Nat.le_of_ble_eq_true rfl) dX7_isAgainst_98 ?_
                  rintro _ _ rfl
                  refine g_lconst 0 C dX7_isAgainst_101 (by decide) ?_
                  refine g_lcmp_eq 108 C (by have h5 := hS 2 (by decide); unfold I64; omega) (by unfold I64; omega) dX7_isAgainst_102 dX7_isAgainst_103 (by decide) (fun h29 => ?_) (fun h29 => ?_)
                  · refine g_iinc (lv' := [(0, .ref (q 0)), (1, .int (iZ 2)), (2, .long (lZ s)), (4, .long (lZ t)), (6, .long (lZ u)), (8, .long (lZ v)), (10, .long (lZ 1)), (12, .int (iZ 1)), (13, .int (iZ 3))]) 8 [1, 2, 3, 4, 5, 6, 7, 8, 0] C rfl dX7_isAgainst_108 (by decide) rfl ?_
                    refine g_goto 81 C dX7_isAgainst_111 (by decide) ?_
                    refine g_iload 8 C rfl dX7_isAgainst_81 ?_
                    refine g_iconst C dX7_isAgainst_83 ?_
                    refine g_icmp_ge 114 C (by unfold I32; omega) (by unfold I32; omega) dX7_isAgainst_84 (by decide) (fun h30 => ?_) (fun h30 => ?_)
                    · refine g_aload_n 0 C rfl dX7_isAgainst_114 rfl ?_
                      refine g_iload_n 1 C rfl dX7_isAgainst_115 rfl ?_
                      refine g_iconst C dX7_isAgainst_116 ?_
                      refine g_lload_n 2 C rfl dX7_isAgainst_117 rfl ?_
                      refine g_lload 3 C rfl dX7_isAgainst_118 ?_
                      refine g_lload 4 C rfl dX7_isAgainst_120 ?_
                      refine g_lload 5 C rfl dX7_isAgainst_122 ?_
                      refine g_callL C (c_X7_summed2 g (c := 4) hb0 hc0 hb1 hc1 (by decide)) gv_X7_159 yd_X7_summed ⟨by decide, by decide⟩ 0 7 (WD_get (by decide)) rfl rfl (Nat.le_of_ble_eq_true rfl) dX7_isAgainst_124 ?_
                      rintro _ _ rfl
                      refine g_lload 6 C rfl dX7_isAgainst_127 ?_
                      refine g_lmul C dX7_isAgainst_129 ?_
                      refine g_lconst 0 C dX7_isAgainst_130 (by decide) ?_
                      refine g_lcmp_le 139 C (by have h5 := hS 4 (by decide); unfold I64; omega) (by unfold I64; omega) dX7_isAgainst_131 dX7_isAgainst_132 (by decide) (fun h31 => ?_) (fun h31 => ?_)
                      · refine g_iconst C dX7_isAgainst_139 ?_
                        refine g_zret (u := ()) C T dX7_isAgainst_140 (by omega) ?_
                        exact ⟨_, rfl, (bZ_f (by unfold Ag2; omega)).symm⟩
                      · refine g_iconst C dX7_isAgainst_135 ?_
                        refine g_goto 140 C dX7_isAgainst_136 (by decide) ?_
                        refine g_zret (u := ()) C T dX7_isAgainst_140 (by omega) ?_
                        exact ⟨_, rfl, (bZ_t (by unfold Ag2; omega)).symm⟩
                    · exact absurd h30 (by first | decide | omega)
                  · refine g_iconst C dX7_isAgainst_106 ?_
                    refine g_zret (u := ()) C T dX7_isAgainst_107 (by omega) ?_
                    exact ⟨_, rfl, (bZ_f (by unfold Ag2; omega)).symm⟩
                · refine g_iconst C dX7_isAgainst_106 ?_
                  refine g_zret (u := ()) C T dX7_isAgainst_107 (by omega) ?_
                  exact ⟨_, rfl, (bZ_f (by unfold Ag2; omega)).symm⟩
              · refine g_iconst C dX7_isAgainst_106 ?_
                refine g_zret (u := ()) C T dX7_isAgainst_107 (by omega) ?_
                exact ⟨_, rfl, (bZ_f (by unfold Ag2; omega)).symm⟩
            · exact absurd h23 (by first | decide | omega)
          · exact absurd h22 (by first | decide | omega)
        · exact absurd h21 (by first | decide | omega)
set_option maxHeartbeats 4000000 in
set_option maxRecDepth 20000 in
theorem c_X7_summed3 (g : Gx) {q : Nat → Nat} {σ : Nat → Nat → Int} {b0 b1 b2 c : Nat} {s t u v : Int} (hb0 : σ 11 0 = (b0 : Int)) (hc0 : b0 < 16) (hb1 : σ 11 1 = (b1 : Int)) (hc1 : b1 < 16) (hb2 : σ 11 2 = (b2 : Int)) (hc2 : b2 < 16) (hc : c < 5) : MC g yX7_summed cX7_summed 13 ((some .long)) 0 0 (WM g q σ) [.ref (q 0), .int (iZ 3), .int (iZ (c : Int)), .long (lZ s), .long (lZ t), .long (lZ u), .long (lZ v)] (fun _ : Unit => WM g q σ) (pL (fun z _ => z = sm3 (rwf σ) b0 b1 b2 c s t u)) := by
  refine MC_intro (own := RX7) rfl (by decide) (Nat.le_of_ble_eq_true rfl) (fun K C T => ?_)
  show GJ g K (WM g q σ) 0 [(0, .ref (q 0)), (1, .int (iZ 3)), (2, .int (iZ (c : Int))), (3, .long (lZ s)), (5, .long (lZ t)), (7, .long (lZ u)), (9, .long (lZ v))] []
  refine g_aload_n 0 C rfl dX7_summed_0 rfl ?_
  refine gf_X7_35 C dX7_summed_1 ?_
  refine g_iconst C dX7_summed_4 ?_
  refine g_aload_n 0 C rfl dX7_summed_5 rfl ?_
  refine gf_X7_45 C dX7_summed_6 ?_
  refine g_iconst C dX7_summed_9 ?_
  refine g_iald C 11 0 (by decide) (fun _ => rfl) (by omega) (by omega) (by decide) dX7_summed_10 ?_
  rw [show σ 11 0 = (b0 : Int) from hb0]
  refine g_imul C dX7_summed_11 ?_
  refine g_iload_n 2 C rfl dX7_summed_12 rfl ?_
  refine g_iadd C dX7_summed_13 ?_
  refine g_lald C 8 ((5 * b0) + c) (by decide) (fun _ => rfl) (by omega) (by omega) (by decide) dX7_summed_14 ?_
  refine g_lload_n 3 C rfl dX7_summed_15 rfl ?_
  refine g_lmul C dX7_summed_16 ?_
  refine g_aload_n 0 C rfl dX7_summed_17 rfl ?_
  refine gf_X7_35 C dX7_summed_18 ?_
  refine g_iconst C dX7_summed_21 ?_
  refine g_aload_n 0 C rfl dX7_summed_22 rfl ?_
  refine gf_X7_45 C dX7_summed_23 ?_
  refine g_iconst C dX7_summed_26 ?_
  refine g_iald C 11 1 (by decide) (fun _ => rfl) (by omega) (by omega) (by decide) dX7_summed_27 ?_
  rw [show σ 11 1 = (b1 : Int) from hb1]
  refine g_imul C dX7_summed_28 ?_
  refine g_iload_n 2 C rfl dX7_summed_29 rfl ?_
  refine g_iadd C dX7_summed_30 ?_
  refine g_lald C 8 ((5 * b1) + c) (by decide) (fun _ => rfl) (by omega) (by omega) (by decide) dX7_summed_31 ?_
  refine g_lload 4 C rfl dX7_summed_32 ?_
  refine g_lmul C dX7_summed_34 ?_
  refine g_ladd C dX7_summed_35 ?_
  refine g_lname (fun w1 ew1 => ?_)
  refine g_lstore (lv' := [(0, .ref (q 0)), (1, .int (iZ 3)), (2, .int (iZ (c : Int))), (3, .long (lZ s)), (5, .long (lZ t)), (7, .long (lZ u)), (9, .long (lZ v)), (11, .long (lZ w1))]) [1, 2, 3, 4, 5, 6, 7, 0] C dX7_summed_36 (by decide) rfl ?_
  refine g_lload 7 C rfl dX7_summed_38 ?_
  refine g_iload_n 1 C rfl dX7_summed_40 rfl ?_
  refine g_iconst C dX7_summed_41 ?_
  refine g_icmp_le 66 C (by unfold I32; omega) (by unfold I32; omega) dX7_summed_42 (by decide) (fun h2 => ?_) (fun h2 => ?_)
  · exact absurd h2 (by first | decide | omega)
  refine g_aload_n 0 C rfl dX7_summed_45 rfl ?_
  refine gf_X7_35 C dX7_summed_46 ?_
  refine g_iconst C dX7_summed_49 ?_
  refine g_aload_n 0 C rfl dX7_summed_50 rfl ?_
  refine gf_X7_45 C dX7_summed_51 ?_
  refine g_iconst C dX7_summed_54 ?_
  refine g_iald C 11 2 (by decide) (fun _ => rfl) (by omega) (by omega) (by decide) dX7_summed_55 ?_
  rw [show σ 11 2 = (b2 : Int) from hb2]
  refine g_imul C dX7_summed_56 ?_
  refine g_iload_n 2 C rfl dX7_summed_57 rfl ?_
  refine g_iadd C dX7_summed_58 ?_
  refine g_lald C 8 ((5 * b2) + c) (by decide) (fun _ => rfl) (by omega) (by omega) (by decide) dX7_summed_59 ?_
  refine g_lload 5 C rfl dX7_summed_60 ?_
  refine g_lmul C dX7_summed_62 ?_
  refine g_goto 67 C dX7_summed_63 (by decide) ?_
  refine g_ladd C dX7_summed_67 ?_
  refine g_lname (fun w3 ew3 => ?_)
  refine g_lstore (lv' := [(0, .ref (q 0)), (1, .int (iZ 3)), (2, .int (iZ (c : Int))), (3, .long (lZ s)), (5, .long (lZ t)), (7, .long (lZ u)), (9, .long (lZ v)), (11, .long (lZ w3))]) [1, 2, 3, 4, 5, 6, 7, 0] C dX7_summed_68 (by decide) rfl ?_
  refine g_iload_n 1 C rfl dX7_summed_70 rfl ?_
  refine g_iconst C dX7_summed_71 ?_
  refine g_icmp_le 99 C (by unfold I32; omega) (by unfold I32; omega) dX7_summed_72 (by decide) (fun h4 => ?_) (fun h4 => ?_)
  · refine g_lload 7 C rfl dX7_summed_99 ?_
    refine g_lret (u := ()) C T dX7_summed_101 ?_
    refine ⟨_, rfl, ?_⟩
    subst ew3
    subst ew1
    rfl
  · exact absurd h4 (by first | decide | omega)
set_option maxHeartbeats 4000000 in
set_option maxRecDepth 20000 in
theorem c_X7_isAgainst3 (g : Gx) {q : Nat → Nat} {σ : Nat → Nat → Int} {b0 b1 b2 : Nat} {s t u v : Int} (hb0 : σ 11 0 = (b0 : Int)) (hc0 : b0 < 16) (hb1 : σ 11 1 = (b1 : Int)) (hc1 : b1 < 16) (hb2 : σ 11 2 = (b2 : Int)) (hc2 : b2 < 16) (h_s : -4611686018427387904 < s ∧ s < 4611686018427387904) (h_t : -4611686018427387904 < t ∧ t < 4611686018427387904) (h_u : -4611686018427387904 < u ∧ u < 4611686018427387904) (hS : ∀ c, c < 5 → -4611686018427387904 < sm3 (rwf σ) b0 b1 b2 c s t u ∧ sm3 (rwf σ) b0 b1 b2 c s t u < 4611686018427387904) : MC g yX7_isAgainst cX7_isAgainst 14 ((some .boolean)) 1 32 (WM g q σ) [.ref (q 0), .int (iZ 3), .long (lZ s), .long (lZ t), .long (lZ u), .long (lZ v)] (fun _ : Unit => WM g q σ) (pI (fun z _ => z = bZ (Ag3 (rwf σ) b0 b1 b2 s t u))) := by
  refine MC_intro (own := RX7) rfl (by decide) (Nat.le_of_ble_eq_true rfl) (fun K C T => ?_)
  show GJ g K (WM g q σ) 0 [(0, .ref (q 0)), (1, .int (iZ 3)), (2, .long (lZ s)), (4, .long (lZ t)), (6, .long (lZ u)), (8, .long (lZ v))] []
  refine g_lload_n 2 C rfl dX7_isAgainst_0 rfl ?_
  refine g_lconst 0 C dX7_isAgainst_1 (by decide) ?_
  refine g_lcmp_le 10 C (by unfold I64; omega) (by unfold I64; omega) dX7_isAgainst_2 dX7_isAgainst_3 (by decide) (fun h1 => ?_) (fun h1 => ?_)
  · refine g_ldc2 (-1) C wk_X7_144 (by decide) dX7_isAgainst_10 ?_
    refine g_lstore (lv' := [(0, .ref (q 0)), (1, .int (iZ 3)), (2, .long (lZ s)), (4, .long (lZ t)), (6, .long (lZ u)), (8, .long (lZ v)), (10, .long (lZ (-1)))]) [1, 2, 3, 4, 5, 6, 0] C dX7_isAgainst_13 (by decide) rfl ?_
    refine g_lload_n 2 C rfl dX7_isAgainst_15 rfl ?_
    refine g_lload 6 C rfl dX7_isAgainst_16 ?_
    refine g_lmul C dX7_isAgainst_18 ?_
    refine g_lconst 0 C dX7_isAgainst_19 (by decide) ?_
    refine g_lcmp_le 68 C (by unfold I64; omega) (by unfold I64; omega) dX7_isAgainst_20 dX7_isAgainst_21 (by decide) (fun h2 => ?_) (fun h2 => ?_)
    · refine g_iconst C dX7_isAgainst_68 ?_
      refine g_istore (lv' := [(0, .ref (q 0)), (1, .int (iZ 3)), (2, .long (lZ s)), (4, .long (lZ t)), (6, .long (lZ u)), (8, .long (lZ v)), (10, .long (lZ (-1))), (12, .int (iZ 0))]) [1, 2, 3, 4, 5, 6, 7, 0] C dX7_isAgainst_69 (by decide) rfl ?_
      refine g_iload 7 C rfl dX7_isAgainst_71 ?_
      refine g_if_ne 78 C (by unfold I32; omega) dX7_isAgainst_73 (by decide) (fun h3 => ?_) (fun h3 => ?_)
      · exact absurd h3 (by first | decide | omega)
      refine g_iconst C dX7_isAgainst_76 ?_
      refine g_zret (u := ()) C T dX7_isAgainst_77 (by omega) ?_
      exact ⟨_, rfl, (bZ_f (by unfold Ag3; omega)).symm⟩
    · refine g_lload 3 C rfl dX7_isAgainst_24 ?_
      refine g_lload 6 C rfl dX7_isAgainst_26 ?_
      refine g_lmul C dX7_isAgainst_28 ?_
      refine g_lconst 0 C dX7_isAgainst_29 (by decide) ?_
      refine g_lcmp_le 68 C (by unfold I64; omega) (by unfold I64; omega) dX7_isAgainst_30 dX7_isAgainst_31 (by decide) (fun h4 => ?_) (fun h4 => ?_)
      · refine g_iconst C dX7_isAgainst_68 ?_
        refine g_istore (lv' := [(0, .ref (q 0)), (1, .int (iZ 3)), (2, .long (lZ s)), (4, .long (lZ t)), (6, .long (lZ u)), (8, .long (lZ v)), (10, .long (lZ (-1))), (12, .int (iZ 0))]) [1, 2, 3, 4, 5, 6, 7, 0] C dX7_isAgainst_69 (by decide) rfl ?_
        refine g_iload 7 C rfl dX7_isAgainst_71 ?_
        refine g_if_ne 78 C (by unfold I32; omega) dX7_isAgainst_73 (by decide) (fun h5 => ?_) (fun h5 => ?_)
        · exact absurd h5 (by first | decide | omega)
        refine g_iconst C dX7_isAgainst_76 ?_
        refine g_zret (u := ()) C T dX7_isAgainst_77 (by omega) ?_
        exact ⟨_, rfl, (bZ_f (by unfold Ag3; omega)).symm⟩
      · refine g_iload_n 1 C rfl dX7_isAgainst_34 rfl ?_
        refine g_iconst C dX7_isAgainst_35 ?_
        refine g_icmp_lt 49 C (by unfold I32; omega) (by unfold I32; omega) dX7_isAgainst_36 (by decide) (fun h6 => ?_) (fun h6 => ?_)
        · exact absurd h6 (by first | decide | omega)
        refine g_lload 4 C rfl dX7_isAgainst_39 ?_
        refine g_lload 6 C rfl dX7_isAgainst_41 ?_
        refine g_lmul C dX7_isAgainst_43 ?_
        refine g_lconst 0 C dX7_isAgainst_44 (by decide) ?_
        refine g_lcmp_le 68 C (by unfold I64; omega) (by unfold I64; omega) dX7_isAgainst_45 dX7_isAgainst_46 (by decide) (fun h7 => ?_) (fun h7 => ?_)
        · refine g_iconst C dX7_isAgainst_68 ?_
          refine g_istore (lv' := [(0, .ref (q 0)), (1, .int (iZ 3)), (2, .long (lZ s)), (4, .long (lZ t)), (6, .long (lZ u)), (8, .long (lZ v)), (10, .long (lZ (-1))), (12, .int (iZ 0))]) [1, 2, 3, 4, 5, 6, 7, 0] C dX7_isAgainst_69 (by decide) rfl ?_
          refine g_iload 7 C rfl dX7_isAgainst_71 ?_
          refine g_if_ne 78 C (by unfold I32; omega) dX7_isAgainst_73 (by decide) (fun h8 => ?_) (fun h8 => ?_)
          · exact absurd h8 (by first | decide | omega)
          refine g_iconst C dX7_isAgainst_76 ?_
          refine g_zret (u := ()) C T dX7_isAgainst_77 (by omega) ?_
          exact ⟨_, rfl, (bZ_f (by unfold Ag3; omega)).symm⟩
        · refine g_iload_n 1 C rfl dX7_isAgainst_49 rfl ?_
          refine g_iconst C dX7_isAgainst_50 ?_
          refine g_icmp_lt 64 C (by unfold I32; omega) (by unfold I32; omega) dX7_isAgainst_51 (by decide) (fun h9 => ?_) (fun h9 => ?_)
          · refine g_iconst C dX7_isAgainst_64 ?_
            refine g_goto 69 C dX7_isAgainst_65 (by decide) ?_
            refine g_istore (lv' := [(0, .ref (q 0)), (1, .int (iZ 3)), (2, .long (lZ s)), (4, .long (lZ t)), (6, .long (lZ u)), (8, .long (lZ v)), (10, .long (lZ (-1))), (12, .int (iZ 1))]) [1, 2, 3, 4, 5, 6, 7, 0] C dX7_isAgainst_69 (by decide) rfl ?_
            refine g_iload 7 C rfl dX7_isAgainst_71 ?_
            refine g_if_ne 78 C (by unfold I32; omega) dX7_isAgainst_73 (by decide) (fun h10 => ?_) (fun h10 => ?_)
            · refine g_iconst C dX7_isAgainst_78 ?_
              refine g_istore (lv' := [(0, .ref (q 0)), (1, .int (iZ 3)), (2, .long (lZ s)), (4, .long (lZ t)), (6, .long (lZ u)), (8, .long (lZ v)), (10, .long (lZ (-1))), (12, .int (iZ 1)), (13, .int (iZ 0))]) [1, 2, 3, 4, 5, 6, 7, 8, 0] C dX7_isAgainst_79 (by decide) rfl ?_
              refine g_iload 8 C rfl dX7_isAgainst_81 ?_
              refine g_iconst C dX7_isAgainst_83 ?_
              refine g_icmp_ge 114 C (by unfold I32; omega) (by unfold I32; omega) dX7_isAgainst_84 (by decide) (fun h11 => ?_) (fun h11 => ?_)
              · exact absurd h11 (by first | decide | omega)
              refine g_aload_n 0 C rfl dX7_isAgainst_87 rfl ?_
              refine g_iload_n 1 C rfl dX7_isAgainst_88 rfl ?_
              refine g_iload 8 C rfl dX7_isAgainst_89 ?_
              refine g_lload_n 2 C rfl dX7_isAgainst_91 rfl ?_
              refine g_lload 3 C rfl dX7_isAgainst_92 ?_
              refine g_lload 4 C rfl dX7_isAgainst_94 ?_
              refine g_lload 5 C rfl dX7_isAgainst_96 ?_
              refine g_callL C (c_X7_summed3 g (c := 0) hb0 hc0 hb1 hc1 hb2 hc2 (by decide)) gv_X7_159 yd_X7_summed ⟨by decide, by decide⟩ 0 7 (WD_get (by decide)) rfl rfl (Nat.le_of_ble_eq_true rfl) dX7_isAgainst_98 ?_
              rintro _ _ rfl
              refine g_lconst 0 C dX7_isAgainst_101 (by decide) ?_
              refine g_lcmp_eq 108 C (by have h5 := hS 0 (by decide); unfold I64; omega) (by unfold I64; omega) dX7_isAgainst_102 dX7_isAgainst_103 (by decide) (fun h12 => ?_) (fun h12 => ?_)
              · refine g_iinc (lv' := [(0, .ref (q 0)), (1, .int (iZ 3)), (2, .long (lZ s)), (4, .long (lZ t)), (6, .long (lZ u)), (8, .long (lZ v)), (10, .long (lZ (-1))), (12, .int (iZ 1)), (13, .int (iZ 1))]) 8 [1, 2, 3, 4, 5, 6, 7, 8, 0] C rfl dX7_isAgainst_108 (by decide) rfl ?_
                refine g_goto 81 C dX7_isAgainst_111 (by decide) ?_
                refine g_iload 8 C rfl dX7_isAgainst_81 ?_
                refine g_iconst C dX7_isAgainst_83 ?_
                refine g_icmp_ge 114 C (by unfold I32; omega) (by unfold I32; omega) dX7_isAgainst_84 (by decide) (fun h13 => ?_) (fun h13 => ?_)
                · exact absurd h13 (by first | decide | omega)
                refine g_aload_n 0 C rfl dX7_isAgainst_87 rfl ?_
                refine g_iload_n 1 C rfl dX7_isAgainst_88 rfl ?_
                refine g_iload 8 C rfl dX7_isAgainst_89 ?_
                refine g_lload_n 2 C rfl dX7_isAgainst_91 rfl ?_
                refine g_lload 3 C rfl dX7_isAgainst_92 ?_
                refine g_lload 4 C rfl dX7_isAgainst_94 ?_
                refine g_lload 5 C rfl dX7_isAgainst_96 ?_
                refine g_callL C (c_X7_summed3 g (c := 1) hb0 hc0 hb1 hc1 hb2 hc2 (by decide)) gv_X7_159 yd_X7_summed ⟨by decide, by decide⟩ 0 7 (WD_get (by decide)) rfl rfl (Nat.le_of_ble_eq_true rfl) dX7_isAgainst_98 ?_
                rintro _ _ rfl
                refine g_lconst 0 C dX7_isAgainst_101 (by decide) ?_
                refine g_lcmp_eq 108 C (by have h5 := hS 1 (by decide); unfold I64; omega) (by unfold I64; omega) dX7_isAgainst_102 dX7_isAgainst_103 (by decide) (fun h14 => ?_) (fun h14 => ?_)
                · refine g_iinc (lv' := [(0, .ref (q 0)), (1, .int (iZ 3)), (2, .long (lZ s)), (4, .long (lZ t)), (6, .long (lZ u)), (8, .long (lZ v)), (10, .long (lZ (-1))), (12, .int (iZ 1)), (13, .int (iZ 2))]) 8 [1, 2, 3, 4, 5, 6, 7, 8, 0] C rfl dX7_isAgainst_108 (by decide) rfl ?_
                  refine g_goto 81 C dX7_isAgainst_111 (by decide) ?_
                  refine g_iload 8 C rfl dX7_isAgainst_81 ?_
                  refine g_iconst C dX7_isAgainst_83 ?_
                  refine g_icmp_ge 114 C (by unfold I32; omega) (by unfold I32; omega) dX7_isAgainst_84 (by decide) (fun h15 => ?_) (fun h15 => ?_)
                  · exact absurd h15 (by first | decide | omega)
                  refine g_aload_n 0 C rfl dX7_isAgainst_87 rfl ?_
                  refine g_iload_n 1 C rfl dX7_isAgainst_88 rfl ?_
                  refine g_iload 8 C rfl dX7_isAgainst_89 ?_
                  refine g_lload_n 2 C rfl dX7_isAgainst_91 rfl ?_
                  refine g_lload 3 C rfl dX7_isAgainst_92 ?_
                  refine g_lload 4 C rfl dX7_isAgainst_94 ?_
                  refine g_lload 5 C rfl dX7_isAgainst_96 ?_
                  refine g_callL C (c_X7_summed3 g (c := 2) hb0 hc0 hb1 hc1 hb2 hc2 (by decide)) gv_X7_159 yd_X7_summed ⟨by decide, by decide⟩ 0 7 (WD_get (by decide)) rfl rfl (Nat.le_of_ble_eq_true rfl) dX7_isAgainst_98 ?_
                  rintro _ _ rfl
                  refine g_lconst 0 C dX7_isAgainst_101 (by decide) ?_
                  refine g_lcmp_eq 108 C (by have h5 := hS 2 (by decide); unfold I64; omega) (by unfold I64; omega) dX7_isAgainst_102 dX7_isAgainst_103 (by decide) (fun h16 => ?_) (fun h16 => ?_)
                  · refine g_iinc (lv' := [(0, .ref (q 0)), (1, .int (iZ 3)), (2, .long (lZ s)), (4, .long (lZ t)), (6, .long (lZ u)), (8, .long (lZ v)), (10, .long (lZ (-1))), (12, .int (iZ 1)), (13, .int (iZ 3))]) 8 [1, 2, 3, 4, 5, 6, 7, 8, 0] C rfl dX7_isAgainst_108 (by decide) rfl ?_
                    refine g_goto 81 C dX7_isAgainst_111 (by decide) ?_
                    refine g_iload 8 C rfl dX7_isAgainst_81 ?_
                    refine g_iconst C dX7_isAgainst_83 ?_
                    refine g_icmp_ge 114 C (by unfold I32; omega) (by unfold I32; omega) dX7_isAgainst_84 (by decide) (fun h17 => ?_) (fun h17 => ?_)
                    · refine g_aload_n 0 C rfl dX7_isAgainst_114 rfl ?_
                      refine g_iload_n 1 C rfl dX7_isAgainst_115 rfl ?_
                      refine g_iconst C dX7_isAgainst_116 ?_
                      refine g_lload_n 2 C rfl dX7_isAgainst_117 rfl ?_
                      refine g_lload 3 C rfl dX7_isAgainst_118 ?_
                      refine g_lload 4 C rfl dX7_isAgainst_120 ?_
                      refine g_lload 5 C rfl dX7_isAgainst_122 ?_
                      refine g_callL C (c_X7_summed3 g (c := 4) hb0 hc0 hb1 hc1 hb2 hc2 (by decide)) gv_X7_159 yd_X7_summed ⟨by decide, by decide⟩ 0 7 (WD_get (by decide)) rfl rfl (Nat.le_of_ble_eq_true rfl) dX7_isAgainst_124 ?_
                      rintro _ _ rfl
                      refine g_lload 6 C rfl dX7_isAgainst_127 ?_
                      refine g_lmul C dX7_isAgainst_129 ?_
                      refine g_lconst 0 C dX7_isAgainst_130 (by decide) ?_
                      refine g_lcmp_le 139 C (by have h5 := hS 4 (by decide); unfold I64; omega) (by unfold I64; omega) dX7_isAgainst_131 dX7_isAgainst_132 (by decide) (fun h18 => ?_) (fun h18 => ?_)
                      · refine g_iconst C dX7_isAgainst_139 ?_
                        refine g_zret (u := ()) C T dX7_isAgainst_140 (by omega) ?_
                        exact ⟨_, rfl, (bZ_f (by unfold Ag3; omega)).symm⟩
                      · refine g_iconst C dX7_isAgainst_135 ?_
                        refine g_goto 140 C dX7_isAgainst_136 (by decide) ?_
                        refine g_zret (u := ()) C T dX7_isAgainst_140 (by omega) ?_
                        exact ⟨_, rfl, (bZ_t (by unfold Ag3; omega)).symm⟩
                    · exact absurd h17 (by first | decide | omega)
                  · refine g_iconst C dX7_isAgainst_106 ?_
                    refine g_zret (u := ()) C T dX7_isAgainst_107 (by omega) ?_
                    exact ⟨_, rfl, (bZ_f (by unfold Ag3; omega)).symm⟩
                · refine g_iconst C dX7_isAgainst_106 ?_
                  refine g_zret (u := ()) C T dX7_isAgainst_107 (by omega) ?_
                  exact ⟨_, rfl, (bZ_f (by unfold Ag3; omega)).symm⟩
              · refine g_iconst C dX7_isAgainst_106 ?_
                refine g_zret (u := ()) C T dX7_isAgainst_107 (by omega) ?_
                exact ⟨_, rfl, (bZ_f (by unfold Ag3; omega)).symm⟩
            · exact absurd h10 (by first | decide | omega)
          · exact absurd h9 (by first | decide | omega)
  · refine g_lconst 1 C dX7_isAgainst_6 (by decide) ?_
    refine g_goto 13 C dX7_isAgainst_7 (by decide) ?_
    refine g_lstore (lv' := [(0, .ref (q 0)), (1, .int (iZ 3)), (2, .long (lZ s)), (4, .long (lZ t)), (6, .long (lZ u)), (8, .long (lZ v)), (10, .long (lZ 1))]) [1, 2, 3, 4, 5, 6, 0] C dX7_isAgainst_13 (by decide) rfl ?_
    refine g_lload_n 2 C rfl dX7_isAgainst_15 rfl ?_
    refine g_lload 6 C rfl dX7_isAgainst_16 ?_
    refine g_lmul C dX7_isAgainst_18 ?_
    refine g_lconst 0 C dX7_isAgainst_19 (by decide) ?_
    refine g_lcmp_le 68 C (by unfold I64; omega) (by unfold I64; omega) dX7_isAgainst_20 dX7_isAgainst_21 (by decide) (fun h19 => ?_) (fun h19 => ?_)
    · refine g_iconst C dX7_isAgainst_68 ?_
      refine g_istore (lv' := [(0, .ref (q 0)), (1, .int (iZ 3)), (2, .long (lZ s)), (4, .long (lZ t)), (6, .long (lZ u)), (8, .long (lZ v)), (10, .long (lZ 1)), (12, .int (iZ 0))]) [1, 2, 3, 4, 5, 6, 7, 0] C dX7_isAgainst_69 (by decide) rfl ?_
      refine g_iload 7 C rfl dX7_isAgainst_71 ?_
      refine g_if_ne 78 C (by unfold I32; omega) dX7_isAgainst_73 (by decide) (fun h20 => ?_) (fun h20 => ?_)
      · exact absurd h20 (by first | decide | omega)
      refine g_iconst C dX7_isAgainst_76 ?_
      refine g_zret (u := ()) C T dX7_isAgainst_77 (by omega) ?_
      exact ⟨_, rfl, (bZ_f (by unfold Ag3; omega)).symm⟩
    · refine g_lload 3 C rfl dX7_isAgainst_24 ?_
      refine g_lload 6 C rfl dX7_isAgainst_26 ?_
      refine g_lmul C dX7_isAgainst_28 ?_
      refine g_lconst 0 C dX7_isAgainst_29 (by decide) ?_
      refine g_lcmp_le 68 C (by unfold I64; omega) (by unfold I64; omega) dX7_isAgainst_30 dX7_isAgainst_31 (by decide) (fun h21 => ?_) (fun h21 => ?_)
      · refine g_iconst C dX7_isAgainst_68 ?_
        refine g_istore (lv' := [(0, .ref (q 0)), (1, .int (iZ 3)), (2, .long (lZ s)), (4, .long (lZ t)), (6, .long (lZ u)), (8, .long (lZ v)), (10, .long (lZ 1)), (12, .int (iZ 0))]) [1, 2, 3, 4, 5, 6, 7, 0] C dX7_isAgainst_69 (by decide) rfl ?_
        refine g_iload 7 C rfl dX7_isAgainst_71 ?_
        refine g_if_ne 78 C (by unfold I32; omega) dX7_isAgainst_73 (by decide) (fun h22 => ?_) (fun h22 => ?_)
        · exact absurd h22 (by first | decide | omega)
        refine g_iconst C dX7_isAgainst_76 ?_
        refine g_zret (u := ()) C T dX7_isAgainst_77 (by omega) ?_
        exact ⟨_, rfl, (bZ_f (by unfold Ag3; omega)).symm⟩
      · refine g_iload_n 1 C rfl dX7_isAgainst_34 rfl ?_
        refine g_iconst C dX7_isAgainst_35 ?_
        refine g_icmp_lt 49 C (by unfold I32; omega) (by unfold I32; omega) dX7_isAgainst_36 (by decide) (fun h23 => ?_) (fun h23 => ?_)
        · exact absurd h23 (by first | decide | omega)
        refine g_lload 4 C rfl dX7_isAgainst_39 ?_
        refine g_lload 6 C rfl dX7_isAgainst_41 ?_
        refine g_lmul C dX7_isAgainst_43 ?_
        refine g_lconst 0 C dX7_isAgainst_44 (by decide) ?_
        refine g_lcmp_le 68 C (by unfold I64; omega) (by unfold I64; omega) dX7_isAgainst_45 dX7_isAgainst_46 (by decide) (fun h24 => ?_) (fun h24 => ?_)
        · refine g_iconst C dX7_isAgainst_68 ?_
          refine g_istore (lv' := [(0, .ref (q 0)), (1, .int (iZ 3)), (2, .long (lZ s)), (4, .long (lZ t)), (6, .long (lZ u)), (8, .long (lZ v)), (10, .long (lZ 1)), (12, .int (iZ 0))]) [1, 2, 3, 4, 5, 6, 7, 0] C dX7_isAgainst_69 (by decide) rfl ?_
          refine g_iload 7 C rfl dX7_isAgainst_71 ?_
          refine g_if_ne 78 C (by unfold I32; omega) dX7_isAgainst_73 (by decide) (fun h25 => ?_) (fun h25 => ?_)
          · exact absurd h25 (by first | decide | omega)
          refine g_iconst C dX7_isAgainst_76 ?_
          refine g_zret (u := ()) C T dX7_isAgainst_77 (by omega) ?_
          exact ⟨_, rfl, (bZ_f (by unfold Ag3; omega)).symm⟩
        · refine g_iload_n 1 C rfl dX7_isAgainst_49 rfl ?_
          refine g_iconst C dX7_isAgainst_50 ?_
          refine g_icmp_lt 64 C (by unfold I32; omega) (by unfold I32; omega) dX7_isAgainst_51 (by decide) (fun h26 => ?_) (fun h26 => ?_)
          · refine g_iconst C dX7_isAgainst_64 ?_
            refine g_goto 69 C dX7_isAgainst_65 (by decide) ?_
            refine g_istore (lv' := [(0, .ref (q 0)), (1, .int (iZ 3)), (2, .long (lZ s)), (4, .long (lZ t)), (6, .long (lZ u)), (8, .long (lZ v)), (10, .long (lZ 1)), (12, .int (iZ 1))]) [1, 2, 3, 4, 5, 6, 7, 0] C dX7_isAgainst_69 (by decide) rfl ?_
            refine g_iload 7 C rfl dX7_isAgainst_71 ?_
            refine g_if_ne 78 C (by unfold I32; omega) dX7_isAgainst_73 (by decide) (fun h27 => ?_) (fun h27 => ?_)
            · refine g_iconst C dX7_isAgainst_78 ?_
              refine g_istore (lv' := [(0, .ref (q 0)), (1, .int (iZ 3)), (2, .long (lZ s)), (4, .long (lZ t)), (6, .long (lZ u)), (8, .long (lZ v)), (10, .long (lZ 1)), (12, .int (iZ 1)), (13, .int (iZ 0))]) [1, 2, 3, 4, 5, 6, 7, 8, 0] C dX7_isAgainst_79 (by decide) rfl ?_
              refine g_iload 8 C rfl dX7_isAgainst_81 ?_
              refine g_iconst C dX7_isAgainst_83 ?_
              refine g_icmp_ge 114 C (by unfold I32; omega) (by unfold I32; omega) dX7_isAgainst_84 (by decide) (fun h28 => ?_) (fun h28 => ?_)
              · exact absurd h28 (by first | decide | omega)
              refine g_aload_n 0 C rfl dX7_isAgainst_87 rfl ?_
              refine g_iload_n 1 C rfl dX7_isAgainst_88 rfl ?_
              refine g_iload 8 C rfl dX7_isAgainst_89 ?_
              refine g_lload_n 2 C rfl dX7_isAgainst_91 rfl ?_
              refine g_lload 3 C rfl dX7_isAgainst_92 ?_
              refine g_lload 4 C rfl dX7_isAgainst_94 ?_
              refine g_lload 5 C rfl dX7_isAgainst_96 ?_
              refine g_callL C (c_X7_summed3 g (c := 0) hb0 hc0 hb1 hc1 hb2 hc2 (by decide)) gv_X7_159 yd_X7_summed ⟨by decide, by decide⟩ 0 7 (WD_get (by decide)) rfl rfl (Nat.le_of_ble_eq_true rfl) dX7_isAgainst_98 ?_
              rintro _ _ rfl
              refine g_lconst 0 C dX7_isAgainst_101 (by decide) ?_
              refine g_lcmp_eq 108 C (by have h5 := hS 0 (by decide); unfold I64; omega) (by unfold I64; omega) dX7_isAgainst_102 dX7_isAgainst_103 (by decide) (fun h29 => ?_) (fun h29 => ?_)
              · refine g_iinc (lv' := [(0, .ref (q 0)), (1, .int (iZ 3)), (2, .long (lZ s)), (4, .long (lZ t)), (6, .long (lZ u)), (8, .long (lZ v)), (10, .long (lZ 1)), (12, .int (iZ 1)), (13, .int (iZ 1))]) 8 [1, 2, 3, 4, 5, 6, 7, 8, 0] C rfl dX7_isAgainst_108 (by decide) rfl ?_
                refine g_goto 81 C dX7_isAgainst_111 (by decide) ?_
                refine g_iload 8 C rfl dX7_isAgainst_81 ?_
                refine g_iconst C dX7_isAgainst_83 ?_
                refine g_icmp_ge 114 C (by unfold I32; omega) (by unfold I32; omega) dX7_isAgainst_84 (by decide) (fun h30 => ?_) (fun h30 => ?_)
                · exact absurd h30 (by first | decide | omega)
                refine g_aload_n 0 C rfl dX7_isAgainst_87 rfl ?_
                refine g_iload_n 1 C rfl dX7_isAgainst_88 rfl ?_
                refine g_iload 8 C rfl dX7_isAgainst_89 ?_
                refine g_lload_n 2 C rfl dX7_isAgainst_91 rfl ?_
                refine g_lload 3 C rfl dX7_isAgainst_92 ?_
                refine g_lload 4 C rfl dX7_isAgainst_94 ?_
                refine g_lload 5 C rfl dX7_isAgainst_96 ?_
                refine g_callL C (c_X7_summed3 g (c := 1) hb0 hc0 hb1 hc1 hb2 hc2 (by decide)) gv_X7_159 yd_X7_summed ⟨by decide, by decide⟩ 0 7 (WD_get (by decide)) rfl rfl (Nat.le_of_ble_eq_true rfl) dX7_isAgainst_98 ?_
                rintro _ _ rfl
                refine g_lconst 0 C dX7_isAgainst_101 (by decide) ?_
                refine g_lcmp_eq 108 C (by have h5 := hS 1 (by decide); unfold I64; omega) (by unfold I64; omega) dX7_isAgainst_102 dX7_isAgainst_103 (by decide) (fun h31 => ?_) (fun h31 => ?_)
                · refine g_iinc (lv' := [(0, .ref (q 0)), (1, .int (iZ 3)), (2, .long (lZ s)), (4, .long (lZ t)), (6, .long (lZ u)), (8, .long (lZ v)), (10, .long (lZ 1)), (12, .int (iZ 1)), (13, .int (iZ 2))]) 8 [1, 2, 3, 4, 5, 6, 7, 8, 0] C rfl dX7_isAgainst_108 (by decide) rfl ?_
                  refine g_goto 81 C dX7_isAgainst_111 (by decide) ?_
                  refine g_iload 8 C rfl dX7_isAgainst_81 ?_
                  refine g_iconst C dX7_isAgainst_83 ?_
                  refine g_icmp_ge 114 C (by unfold I32; omega) (by unfold I32; omega) dX7_isAgainst_84 (by decide) (fun h32 => ?_) (fun h32 => ?_)
                  · exact absurd h32 (by first | decide | omega)
                  refine g_aload_n 0 C rfl dX7_isAgainst_87 rfl ?_
                  refine g_iload_n 1 C rfl dX7_isAgainst_88 rfl ?_
                  refine g_iload 8 C rfl dX7_isAgainst_89 ?_
                  refine g_lload_n 2 C rfl dX7_isAgainst_91 rfl ?_
                  refine g_lload 3 C rfl dX7_isAgainst_92 ?_
                  refine g_lload 4 C rfl dX7_isAgainst_94 ?_
                  refine g_lload 5 C rfl dX7_isAgainst_96 ?_
                  refine g_callL C (c_X7_summed3 g (c := 2) hb0 hc0 hb1 hc1 hb2 hc2 (by decide)) gv_X7_159 yd_X7_summed ⟨by decide, by decide⟩ 0 7 (WD_get (by decide)) rfl rfl (Nat.le_of_ble_eq_true rfl) dX7_isAgainst_98 ?_
                  rintro _ _ rfl
                  refine g_lconst 0 C dX7_isAgainst_101 (by decide) ?_
                  refine g_lcmp_eq 108 C (by have h5 := hS 2 (by decide); unfold I64; omega) (by unfold I64; omega) dX7_isAgainst_102 dX7_isAgainst_103 (by decide) (fun h33 => ?_) (fun h33 => ?_)
                  · refine g_iinc (lv' := [(0, .ref (q 0)), (1, .int (iZ 3)), (2, .long (lZ s)), (4, .long (lZ t)), (6, .long (lZ u)), (8, .long (lZ v)), (10, .long (lZ 1)), (12, .int (iZ 1)), (13, .int (iZ 3))]) 8 [1, 2, 3, 4, 5, 6, 7, 8, 0] C rfl dX7_isAgainst_108 (by decide) rfl ?_
                    refine g_goto 81 C dX7_isAgainst_111 (by decide) ?_
                    refine g_iload 8 C rfl dX7_isAgainst_81 ?_
                    refine g_iconst C dX7_isAgainst_83 ?_
                    refine g_icmp_ge 114 C (by unfold I32; omega) (by unfold I32; omega) dX7_isAgainst_84 (by decide) (fun h34 => ?_) (fun h34 => ?_)
                    · refine g_aload_n 0 C rfl dX7_isAgainst_114 rfl ?_
                      refine g_iload_n 1 C rfl dX7_isAgainst_115 rfl ?_
                      refine g_iconst C dX7_isAgainst_116 ?_
                      refine g_lload_n 2 C rfl dX7_isAgainst_117 rfl ?_
                      refine g_lload 3 C rfl dX7_isAgainst_118 ?_
                      refine g_lload 4 C rfl dX7_isAgainst_120 ?_
                      refine g_lload 5 C rfl dX7_isAgainst_122 ?_
                      refine g_callL C (c_X7_summed3 g (c := 4) hb0 hc0 hb1 hc1 hb2 hc2 (by decide)) gv_X7_159 yd_X7_summed ⟨by decide, by decide⟩ 0 7 (WD_get (by decide)) rfl rfl (Nat.le_of_ble_eq_true rfl) dX7_isAgainst_124 ?_
                      rintro _ _ rfl
                      refine g_lload 6 C rfl dX7_isAgainst_127 ?_
                      refine g_lmul C dX7_isAgainst_129 ?_
                      refine g_lconst 0 C dX7_isAgainst_130 (by decide) ?_
                      refine g_lcmp_le 139 C (by have h5 := hS 4 (by decide); unfold I64; omega) (by unfold I64; omega) dX7_isAgainst_131 dX7_isAgainst_132 (by decide) (fun h35 => ?_) (fun h35 => ?_)
                      · refine g_iconst C dX7_isAgainst_139 ?_
                        refine g_zret (u := ()) C T dX7_isAgainst_140 (by omega) ?_
                        exact ⟨_, rfl, (bZ_f (by unfold Ag3; omega)).symm⟩
                      · refine g_iconst C dX7_isAgainst_135 ?_
                        refine g_goto 140 C dX7_isAgainst_136 (by decide) ?_
                        refine g_zret (u := ()) C T dX7_isAgainst_140 (by omega) ?_
                        exact ⟨_, rfl, (bZ_t (by unfold Ag3; omega)).symm⟩
                    · exact absurd h34 (by first | decide | omega)
                  · refine g_iconst C dX7_isAgainst_106 ?_
                    refine g_zret (u := ()) C T dX7_isAgainst_107 (by omega) ?_
                    exact ⟨_, rfl, (bZ_f (by unfold Ag3; omega)).symm⟩
                · refine g_iconst C dX7_isAgainst_106 ?_
                  refine g_zret (u := ()) C T dX7_isAgainst_107 (by omega) ?_
                  exact ⟨_, rfl, (bZ_f (by unfold Ag3; omega)).symm⟩
              · refine g_iconst C dX7_isAgainst_106 ?_
                refine g_zret (u := ()) C T dX7_isAgainst_107 (by omega) ?_
                exact ⟨_, rfl, (bZ_f (by unfold Ag3; omega)).symm⟩
            · exact absurd h27 (by first | decide | omega)
          · exact absurd h26 (by first | decide | omega)
set_option maxHeartbeats 4000000 in
set_option maxRecDepth 20000 in
theorem c_X7_summed4 (g : Gx) {q : Nat → Nat} {σ : Nat → Nat → Int} {b0 b1 b2 b3 c : Nat} {s t u v : Int} (hb0 : σ 11 0 = (b0 : Int)) (hc0 : b0 < 16) (hb1 : σ 11 1 = (b1 : Int)) (hc1 : b1 < 16) (hb2 : σ 11 2 = (b2 : Int)) (hc2 : b2 < 16) (hb3 : σ 11 3 = (b3 : Int)) (hc3 : b3 < 16) (hc : c < 5) : MC g yX7_summed cX7_summed 13 ((some .long)) 0 0 (WM g q σ) [.ref (q 0), .int (iZ 4), .int (iZ (c : Int)), .long (lZ s), .long (lZ t), .long (lZ u), .long (lZ v)] (fun _ : Unit => WM g q σ) (pL (fun z _ => z = sm4 (rwf σ) b0 b1 b2 b3 c s t u v)) := by
  refine MC_intro (own := RX7) rfl (by decide) (Nat.le_of_ble_eq_true rfl) (fun K C T => ?_)
  show GJ g K (WM g q σ) 0 [(0, .ref (q 0)), (1, .int (iZ 4)), (2, .int (iZ (c : Int))), (3, .long (lZ s)), (5, .long (lZ t)), (7, .long (lZ u)), (9, .long (lZ v))] []
  refine g_aload_n 0 C rfl dX7_summed_0 rfl ?_
  refine gf_X7_35 C dX7_summed_1 ?_
  refine g_iconst C dX7_summed_4 ?_
  refine g_aload_n 0 C rfl dX7_summed_5 rfl ?_
  refine gf_X7_45 C dX7_summed_6 ?_
  refine g_iconst C dX7_summed_9 ?_
  refine g_iald C 11 0 (by decide) (fun _ => rfl) (by omega) (by omega) (by decide) dX7_summed_10 ?_
  rw [show σ 11 0 = (b0 : Int) from hb0]
  refine g_imul C dX7_summed_11 ?_
  refine g_iload_n 2 C rfl dX7_summed_12 rfl ?_
  refine g_iadd C dX7_summed_13 ?_
  refine g_lald C 8 ((5 * b0) + c) (by decide) (fun _ => rfl) (by omega) (by omega) (by decide) dX7_summed_14 ?_
  refine g_lload_n 3 C rfl dX7_summed_15 rfl ?_
  refine g_lmul C dX7_summed_16 ?_
  refine g_aload_n 0 C rfl dX7_summed_17 rfl ?_
  refine gf_X7_35 C dX7_summed_18 ?_
  refine g_iconst C dX7_summed_21 ?_
  refine g_aload_n 0 C rfl dX7_summed_22 rfl ?_
  refine gf_X7_45 C dX7_summed_23 ?_
  refine g_iconst C dX7_summed_26 ?_
  refine g_iald C 11 1 (by decide) (fun _ => rfl) (by omega) (by omega) (by decide) dX7_summed_27 ?_
  rw [show σ 11 1 = (b1 : Int) from hb1]
  refine g_imul C dX7_summed_28 ?_
  refine g_iload_n 2 C rfl dX7_summed_29 rfl ?_
  refine g_iadd C dX7_summed_30 ?_
  refine g_lald C 8 ((5 * b1) + c) (by decide) (fun _ => rfl) (by omega) (by omega) (by decide) dX7_summed_31 ?_
  refine g_lload 4 C rfl dX7_summed_32 ?_
  refine g_lmul C dX7_summed_34 ?_
  refine g_ladd C dX7_summed_35 ?_
  refine g_lname (fun w1 ew1 => ?_)
  refine g_lstore (lv' := [(0, .ref (q 0)), (1, .int (iZ 4)), (2, .int (iZ (c : Int))), (3, .long (lZ s)), (5, .long (lZ t)), (7, .long (lZ u)), (9, .long (lZ v)), (11, .long (lZ w1))]) [1, 2, 3, 4, 5, 6, 7, 0] C dX7_summed_36 (by decide) rfl ?_
  refine g_lload 7 C rfl dX7_summed_38 ?_
  refine g_iload_n 1 C rfl dX7_summed_40 rfl ?_
  refine g_iconst C dX7_summed_41 ?_
  refine g_icmp_le 66 C (by unfold I32; omega) (by unfold I32; omega) dX7_summed_42 (by decide) (fun h2 => ?_) (fun h2 => ?_)
  · exact absurd h2 (by first | decide | omega)
  refine g_aload_n 0 C rfl dX7_summed_45 rfl ?_
  refine gf_X7_35 C dX7_summed_46 ?_
  refine g_iconst C dX7_summed_49 ?_
  refine g_aload_n 0 C rfl dX7_summed_50 rfl ?_
  refine gf_X7_45 C dX7_summed_51 ?_
  refine g_iconst C dX7_summed_54 ?_
  refine g_iald C 11 2 (by decide) (fun _ => rfl) (by omega) (by omega) (by decide) dX7_summed_55 ?_
  rw [show σ 11 2 = (b2 : Int) from hb2]
  refine g_imul C dX7_summed_56 ?_
  refine g_iload_n 2 C rfl dX7_summed_57 rfl ?_
  refine g_iadd C dX7_summed_58 ?_
  refine g_lald C 8 ((5 * b2) + c) (by decide) (fun _ => rfl) (by omega) (by omega) (by decide) dX7_summed_59 ?_
  refine g_lload 5 C rfl dX7_summed_60 ?_
  refine g_lmul C dX7_summed_62 ?_
  refine g_goto 67 C dX7_summed_63 (by decide) ?_
  refine g_ladd C dX7_summed_67 ?_
  refine g_lname (fun w3 ew3 => ?_)
  refine g_lstore (lv' := [(0, .ref (q 0)), (1, .int (iZ 4)), (2, .int (iZ (c : Int))), (3, .long (lZ s)), (5, .long (lZ t)), (7, .long (lZ u)), (9, .long (lZ v)), (11, .long (lZ w3))]) [1, 2, 3, 4, 5, 6, 7, 0] C dX7_summed_68 (by decide) rfl ?_
  refine g_iload_n 1 C rfl dX7_summed_70 rfl ?_
  refine g_iconst C dX7_summed_71 ?_
  refine g_icmp_le 99 C (by unfold I32; omega) (by unfold I32; omega) dX7_summed_72 (by decide) (fun h4 => ?_) (fun h4 => ?_)
  · exact absurd h4 (by first | decide | omega)
  refine g_lload 7 C rfl dX7_summed_75 ?_
  refine g_aload_n 0 C rfl dX7_summed_77 rfl ?_
  refine gf_X7_35 C dX7_summed_78 ?_
  refine g_iconst C dX7_summed_81 ?_
  refine g_aload_n 0 C rfl dX7_summed_82 rfl ?_
  refine gf_X7_45 C dX7_summed_83 ?_
  refine g_iconst C dX7_summed_86 ?_
  refine g_iald C 11 3 (by decide) (fun _ => rfl) (by omega) (by omega) (by decide) dX7_summed_87 ?_
  rw [show σ 11 3 = (b3 : Int) from hb3]
  refine g_imul C dX7_summed_88 ?_
  refine g_iload_n 2 C rfl dX7_summed_89 rfl ?_
  refine g_iadd C dX7_summed_90 ?_
  refine g_lald C 8 ((5 * b3) + c) (by decide) (fun _ => rfl) (by omega) (by omega) (by decide) dX7_summed_91 ?_
  refine g_lload 6 C rfl dX7_summed_92 ?_
  refine g_lmul C dX7_summed_94 ?_
  refine g_ladd C dX7_summed_95 ?_
  refine g_goto 101 C dX7_summed_96 (by decide) ?_
  refine g_lret (u := ()) C T dX7_summed_101 ?_
  refine ⟨_, rfl, ?_⟩
  subst ew3
  subst ew1
  rfl
set_option maxHeartbeats 4000000 in
set_option maxRecDepth 20000 in
theorem c_X7_isAgainst4 (g : Gx) {q : Nat → Nat} {σ : Nat → Nat → Int} {b0 b1 b2 b3 : Nat} {s t u v : Int} (hb0 : σ 11 0 = (b0 : Int)) (hc0 : b0 < 16) (hb1 : σ 11 1 = (b1 : Int)) (hc1 : b1 < 16) (hb2 : σ 11 2 = (b2 : Int)) (hc2 : b2 < 16) (hb3 : σ 11 3 = (b3 : Int)) (hc3 : b3 < 16) (h_s : -4611686018427387904 < s ∧ s < 4611686018427387904) (h_t : -4611686018427387904 < t ∧ t < 4611686018427387904) (h_u : -4611686018427387904 < u ∧ u < 4611686018427387904) (h_v : -4611686018427387904 < v ∧ v < 4611686018427387904) (hS : ∀ c, c < 5 → -4611686018427387904 < sm4 (rwf σ) b0 b1 b2 b3 c s t u v ∧ sm4 (rwf σ) b0 b1 b2 b3 c s t u v < 4611686018427387904) : MC g yX7_isAgainst cX7_isAgainst 14 ((some .boolean)) 1 32 (WM g q σ) [.ref (q 0), .int (iZ 4), .long (lZ s), .long (lZ t), .long (lZ u), .long (lZ v)] (fun _ : Unit => WM g q σ) (pI (fun z _ => z = bZ (Ag4 (rwf σ) b0 b1 b2 b3 s t u v))) := by
  refine MC_intro (own := RX7) rfl (by decide) (Nat.le_of_ble_eq_true rfl) (fun K C T => ?_)
  show GJ g K (WM g q σ) 0 [(0, .ref (q 0)), (1, .int (iZ 4)), (2, .long (lZ s)), (4, .long (lZ t)), (6, .long (lZ u)), (8, .long (lZ v))] []
  refine g_lload_n 2 C rfl dX7_isAgainst_0 rfl ?_
  refine g_lconst 0 C dX7_isAgainst_1 (by decide) ?_
  refine g_lcmp_le 10 C (by unfold I64; omega) (by unfold I64; omega) dX7_isAgainst_2 dX7_isAgainst_3 (by decide) (fun h1 => ?_) (fun h1 => ?_)
  · refine g_ldc2 (-1) C wk_X7_144 (by decide) dX7_isAgainst_10 ?_
    refine g_lstore (lv' := [(0, .ref (q 0)), (1, .int (iZ 4)), (2, .long (lZ s)), (4, .long (lZ t)), (6, .long (lZ u)), (8, .long (lZ v)), (10, .long (lZ (-1)))]) [1, 2, 3, 4, 5, 6, 0] C dX7_isAgainst_13 (by decide) rfl ?_
    refine g_lload_n 2 C rfl dX7_isAgainst_15 rfl ?_
    refine g_lload 6 C rfl dX7_isAgainst_16 ?_
    refine g_lmul C dX7_isAgainst_18 ?_
    refine g_lconst 0 C dX7_isAgainst_19 (by decide) ?_
    refine g_lcmp_le 68 C (by unfold I64; omega) (by unfold I64; omega) dX7_isAgainst_20 dX7_isAgainst_21 (by decide) (fun h2 => ?_) (fun h2 => ?_)
    · refine g_iconst C dX7_isAgainst_68 ?_
      refine g_istore (lv' := [(0, .ref (q 0)), (1, .int (iZ 4)), (2, .long (lZ s)), (4, .long (lZ t)), (6, .long (lZ u)), (8, .long (lZ v)), (10, .long (lZ (-1))), (12, .int (iZ 0))]) [1, 2, 3, 4, 5, 6, 7, 0] C dX7_isAgainst_69 (by decide) rfl ?_
      refine g_iload 7 C rfl dX7_isAgainst_71 ?_
      refine g_if_ne 78 C (by unfold I32; omega) dX7_isAgainst_73 (by decide) (fun h3 => ?_) (fun h3 => ?_)
      · exact absurd h3 (by first | decide | omega)
      refine g_iconst C dX7_isAgainst_76 ?_
      refine g_zret (u := ()) C T dX7_isAgainst_77 (by omega) ?_
      exact ⟨_, rfl, (bZ_f (by unfold Ag4; omega)).symm⟩
    · refine g_lload 3 C rfl dX7_isAgainst_24 ?_
      refine g_lload 6 C rfl dX7_isAgainst_26 ?_
      refine g_lmul C dX7_isAgainst_28 ?_
      refine g_lconst 0 C dX7_isAgainst_29 (by decide) ?_
      refine g_lcmp_le 68 C (by unfold I64; omega) (by unfold I64; omega) dX7_isAgainst_30 dX7_isAgainst_31 (by decide) (fun h4 => ?_) (fun h4 => ?_)
      · refine g_iconst C dX7_isAgainst_68 ?_
        refine g_istore (lv' := [(0, .ref (q 0)), (1, .int (iZ 4)), (2, .long (lZ s)), (4, .long (lZ t)), (6, .long (lZ u)), (8, .long (lZ v)), (10, .long (lZ (-1))), (12, .int (iZ 0))]) [1, 2, 3, 4, 5, 6, 7, 0] C dX7_isAgainst_69 (by decide) rfl ?_
        refine g_iload 7 C rfl dX7_isAgainst_71 ?_
        refine g_if_ne 78 C (by unfold I32; omega) dX7_isAgainst_73 (by decide) (fun h5 => ?_) (fun h5 => ?_)
        · exact absurd h5 (by first | decide | omega)
        refine g_iconst C dX7_isAgainst_76 ?_
        refine g_zret (u := ()) C T dX7_isAgainst_77 (by omega) ?_
        exact ⟨_, rfl, (bZ_f (by unfold Ag4; omega)).symm⟩
      · refine g_iload_n 1 C rfl dX7_isAgainst_34 rfl ?_
        refine g_iconst C dX7_isAgainst_35 ?_
        refine g_icmp_lt 49 C (by unfold I32; omega) (by unfold I32; omega) dX7_isAgainst_36 (by decide) (fun h6 => ?_) (fun h6 => ?_)
        · exact absurd h6 (by first | decide | omega)
        refine g_lload 4 C rfl dX7_isAgainst_39 ?_
        refine g_lload 6 C rfl dX7_isAgainst_41 ?_
        refine g_lmul C dX7_isAgainst_43 ?_
        refine g_lconst 0 C dX7_isAgainst_44 (by decide) ?_
        refine g_lcmp_le 68 C (by unfold I64; omega) (by unfold I64; omega) dX7_isAgainst_45 dX7_isAgainst_46 (by decide) (fun h7 => ?_) (fun h7 => ?_)
        · refine g_iconst C dX7_isAgainst_68 ?_
          refine g_istore (lv' := [(0, .ref (q 0)), (1, .int (iZ 4)), (2, .long (lZ s)), (4, .long (lZ t)), (6, .long (lZ u)), (8, .long (lZ v)), (10, .long (lZ (-1))), (12, .int (iZ 0))]) [1, 2, 3, 4, 5, 6, 7, 0] C dX7_isAgainst_69 (by decide) rfl ?_
          refine g_iload 7 C rfl dX7_isAgainst_71 ?_
          refine g_if_ne 78 C (by unfold I32; omega) dX7_isAgainst_73 (by decide) (fun h8 => ?_) (fun h8 => ?_)
          · exact absurd h8 (by first | decide | omega)
          refine g_iconst C dX7_isAgainst_76 ?_
          refine g_zret (u := ()) C T dX7_isAgainst_77 (by omega) ?_
          exact ⟨_, rfl, (bZ_f (by unfold Ag4; omega)).symm⟩
        · refine g_iload_n 1 C rfl dX7_isAgainst_49 rfl ?_
          refine g_iconst C dX7_isAgainst_50 ?_
          refine g_icmp_lt 64 C (by unfold I32; omega) (by unfold I32; omega) dX7_isAgainst_51 (by decide) (fun h9 => ?_) (fun h9 => ?_)
          · exact absurd h9 (by first | decide | omega)
          refine g_lload 5 C rfl dX7_isAgainst_54 ?_
          refine g_lload 6 C rfl dX7_isAgainst_56 ?_
          refine g_lmul C dX7_isAgainst_58 ?_
          refine g_lconst 0 C dX7_isAgainst_59 (by decide) ?_
          refine g_lcmp_le 68 C (by unfold I64; omega) (by unfold I64; omega) dX7_isAgainst_60 dX7_isAgainst_61 (by decide) (fun h10 => ?_) (fun h10 => ?_)
          · refine g_iconst C dX7_isAgainst_68 ?_
            refine g_istore (lv' := [(0, .ref (q 0)), (1, .int (iZ 4)), (2, .long (lZ s)), (4, .long (lZ t)), (6, .long (lZ u)), (8, .long (lZ v)), (10, .long (lZ (-1))), (12, .int (iZ 0))]) [1, 2, 3, 4, 5, 6, 7, 0] C dX7_isAgainst_69 (by decide) rfl ?_
            refine g_iload 7 C rfl dX7_isAgainst_71 ?_
            refine g_if_ne 78 C (by unfold I32; omega) dX7_isAgainst_73 (by decide) (fun h11 => ?_) (fun h11 => ?_)
            · exact absurd h11 (by first | decide | omega)
            refine g_iconst C dX7_isAgainst_76 ?_
            refine g_zret (u := ()) C T dX7_isAgainst_77 (by omega) ?_
            exact ⟨_, rfl, (bZ_f (by unfold Ag4; omega)).symm⟩
          · refine g_iconst C dX7_isAgainst_64 ?_
            refine g_goto 69 C dX7_isAgainst_65 (by decide) ?_
            refine g_istore (lv' := [(0, .ref (q 0)), (1, .int (iZ 4)), (2, .long (lZ s)), (4, .long (lZ t)), (6, .long (lZ u)), (8, .long (lZ v)), (10, .long (lZ (-1))), (12, .int (iZ 1))]) [1, 2, 3, 4, 5, 6, 7, 0] C dX7_isAgainst_69 (by decide) rfl ?_
            refine g_iload 7 C rfl dX7_isAgainst_71 ?_
            refine g_if_ne 78 C (by unfold I32; omega) dX7_isAgainst_73 (by decide) (fun h12 => ?_) (fun h12 => ?_)
            · refine g_iconst C dX7_isAgainst_78 ?_
              refine g_istore (lv' := [(0, .ref (q 0)), (1, .int (iZ 4)), (2, .long (lZ s)), (4, .long (lZ t)), (6, .long (lZ u)), (8, .long (lZ v)), (10, .long (lZ (-1))), (12, .int (iZ 1)), (13, .int (iZ 0))]) [1, 2, 3, 4, 5, 6, 7, 8, 0] C dX7_isAgainst_79 (by decide) rfl ?_
              refine g_iload 8 C rfl dX7_isAgainst_81 ?_
              refine g_iconst C dX7_isAgainst_83 ?_
              refine g_icmp_ge 114 C (by unfold I32; omega) (by unfold I32; omega) dX7_isAgainst_84 (by decide) (fun h13 => ?_) (fun h13 => ?_)
              · exact absurd h13 (by first | decide | omega)
              refine g_aload_n 0 C rfl dX7_isAgainst_87 rfl ?_
              refine g_iload_n 1 C rfl dX7_isAgainst_88 rfl ?_
              refine g_iload 8 C rfl dX7_isAgainst_89 ?_
              refine g_lload_n 2 C rfl dX7_isAgainst_91 rfl ?_
              refine g_lload 3 C rfl dX7_isAgainst_92 ?_
              refine g_lload 4 C rfl dX7_isAgainst_94 ?_
              refine g_lload 5 C rfl dX7_isAgainst_96 ?_
              refine g_callL C (c_X7_summed4 g (c := 0) hb0 hc0 hb1 hc1 hb2 hc2 hb3 hc3 (by decide)) gv_X7_159 yd_X7_summed ⟨by decide, by decide⟩ 0 7 (WD_get (by decide)) rfl rfl (Nat.le_of_ble_eq_true rfl) dX7_isAgainst_98 ?_
              rintro _ _ rfl
              refine g_lconst 0 C dX7_isAgainst_101 (by decide) ?_
              refine g_lcmp_eq 108 C (by have h5 := hS 0 (by decide); unfold I64; omega) (by unfold I64; omega) dX7_isAgainst_102 dX7_isAgainst_103 (by decide) (fun h14 => ?_) (fun h14 => ?_)
              · refine g_iinc (lv' := [(0, .ref (q 0)), (1, .int (iZ 4)), (2, .long (lZ s)), (4, .long (lZ t)), (6, .long (lZ u)), (8, .long (lZ v)), (10, .long (lZ (-1))), (12, .int (iZ 1)), (13, .int (iZ 1))]) 8 [1, 2, 3, 4, 5, 6, 7, 8, 0] C rfl dX7_isAgainst_108 (by decide) rfl ?_
                refine g_goto 81 C dX7_isAgainst_111 (by decide) ?_
                refine g_iload 8 C rfl dX7_isAgainst_81 ?_
                refine g_iconst C dX7_isAgainst_83 ?_
                refine g_icmp_ge 114 C (by unfold I32; omega) (by unfold I32; omega) dX7_isAgainst_84 (by decide) (fun h15 => ?_) (fun h15 => ?_)
                · exact absurd h15 (by first | decide | omega)
                refine g_aload_n 0 C rfl dX7_isAgainst_87 rfl ?_
                refine g_iload_n 1 C rfl dX7_isAgainst_88 rfl ?_
                refine g_iload 8 C rfl dX7_isAgainst_89 ?_
                refine g_lload_n 2 C rfl dX7_isAgainst_91 rfl ?_
                refine g_lload 3 C rfl dX7_isAgainst_92 ?_
                refine g_lload 4 C rfl dX7_isAgainst_94 ?_
                refine g_lload 5 C rfl dX7_isAgainst_96 ?_
                refine g_callL C (c_X7_summed4 g (c := 1) hb0 hc0 hb1 hc1 hb2 hc2 hb3 hc3 (by decide)) gv_X7_159 yd_X7_summed ⟨by decide, by decide⟩ 0 7 (WD_get (by decide)) rfl rfl (Nat.le_of_ble_eq_true rfl) dX7_isAgainst_98 ?_
                rintro _ _ rfl
                refine g_lconst 0 C dX7_isAgainst_101 (by decide) ?_
                refine g_lcmp_eq 108 C (by have h5 := hS 1 (by decide); unfold I64; omega) (by unfold I64; omega) dX7_isAgainst_102 dX7_isAgainst_103 (by decide) (fun h16 => ?_) (fun h16 => ?_)
                · refine g_iinc (lv' := [(0, .ref (q 0)), (1, .int (iZ 4)), (2, .long (lZ s)), (4, .long (lZ t)), (6, .long (lZ u)), (8, .long (lZ v)), (10, .long (lZ (-1))), (12, .int (iZ 1)), (13, .int (iZ 2))]) 8 [1, 2, 3, 4, 5, 6, 7, 8, 0] C rfl dX7_isAgainst_108 (by decide) rfl ?_
                  refine g_goto 81 C dX7_isAgainst_111 (by decide) ?_
                  refine g_iload 8 C rfl dX7_isAgainst_81 ?_
                  refine g_iconst C dX7_isAgainst_83 ?_
                  refine g_icmp_ge 114 C (by unfold I32; omega) (by unfold I32; omega) dX7_isAgainst_84 (by decide) (fun h17 => ?_) (fun h17 => ?_)
                  · exact absurd h17 (by first | decide | omega)
                  refine g_aload_n 0 C rfl dX7_isAgainst_87 rfl ?_
                  refine g_iload_n 1 C rfl dX7_isAgainst_88 rfl ?_
                  refine g_iload 8 C rfl dX7_isAgainst_89 ?_
                  refine g_lload_n 2 C rfl dX7_isAgainst_91 rfl ?_
                  refine g_lload 3 C rfl dX7_isAgainst_92 ?_
                  refine g_lload 4 C rfl dX7_isAgainst_94 ?_
                  refine g_lload 5 C rfl dX7_isAgainst_96 ?_
                  refine g_callL C (c_X7_summed4 g (c := 2) hb0 hc0 hb1 hc1 hb2 hc2 hb3 hc3 (by decide)) gv_X7_159 yd_X7_summed ⟨by decide, by decide⟩ 0 7 (WD_get (by decide)) rfl rfl (Nat.le_of_ble_eq_true rfl) dX7_isAgainst_98 ?_
                  rintro _ _ rfl
                  refine g_lconst 0 C dX7_isAgainst_101 (by decide) ?_
                  refine g_lcmp_eq 108 C (by have h5 := hS 2 (by decide); unfold I64; omega) (by unfold I64; omega) dX7_isAgainst_102 dX7_isAgainst_103 (by decide) (fun h18 => ?_) (fun h18 => ?_)
                  · refine g_iinc (lv' := [(0, .ref (q 0)), (1, .int (iZ 4)), (2, .long (lZ s)), (4, .long (lZ t)), (6, .long (lZ u)), (8, .long (lZ v)), (10, .long (lZ (-1))), (12, .int (iZ 1)), (13, .int (iZ 3))]) 8 [1, 2, 3, 4, 5, 6, 7, 8, 0] C rfl dX7_isAgainst_108 (by decide) rfl ?_
                    refine g_goto 81 C dX7_isAgainst_111 (by decide) ?_
                    refine g_iload 8 C rfl dX7_isAgainst_81 ?_
                    refine g_iconst C dX7_isAgainst_83 ?_
                    refine g_icmp_ge 114 C (by unfold I32; omega) (by unfold I32; omega) dX7_isAgainst_84 (by decide) (fun h19 => ?_) (fun h19 => ?_)
                    · refine g_aload_n 0 C rfl dX7_isAgainst_114 rfl ?_
                      refine g_iload_n 1 C rfl dX7_isAgainst_115 rfl ?_
                      refine g_iconst C dX7_isAgainst_116 ?_
                      refine g_lload_n 2 C rfl dX7_isAgainst_117 rfl ?_
                      refine g_lload 3 C rfl dX7_isAgainst_118 ?_
                      refine g_lload 4 C rfl dX7_isAgainst_120 ?_
                      refine g_lload 5 C rfl dX7_isAgainst_122 ?_
                      refine g_callL C (c_X7_summed4 g (c := 4) hb0 hc0 hb1 hc1 hb2 hc2 hb3 hc3 (by decide)) gv_X7_159 yd_X7_summed ⟨by decide, by decide⟩ 0 7 (WD_get (by decide)) rfl rfl (Nat.le_of_ble_eq_true rfl) dX7_isAgainst_124 ?_
                      rintro _ _ rfl
                      refine g_lload 6 C rfl dX7_isAgainst_127 ?_
                      refine g_lmul C dX7_isAgainst_129 ?_
                      refine g_lconst 0 C dX7_isAgainst_130 (by decide) ?_
                      refine g_lcmp_le 139 C (by have h5 := hS 4 (by decide); unfold I64; omega) (by unfold I64; omega) dX7_isAgainst_131 dX7_isAgainst_132 (by decide) (fun h20 => ?_) (fun h20 => ?_)
                      · refine g_iconst C dX7_isAgainst_139 ?_
                        refine g_zret (u := ()) C T dX7_isAgainst_140 (by omega) ?_
                        exact ⟨_, rfl, (bZ_f (by unfold Ag4; omega)).symm⟩
                      · refine g_iconst C dX7_isAgainst_135 ?_
                        refine g_goto 140 C dX7_isAgainst_136 (by decide) ?_
                        refine g_zret (u := ()) C T dX7_isAgainst_140 (by omega) ?_
                        exact ⟨_, rfl, (bZ_t (by unfold Ag4; omega)).symm⟩
                    · exact absurd h19 (by first | decide | omega)
                  · refine g_iconst C dX7_isAgainst_106 ?_
                    refine g_zret (u := ()) C T dX7_isAgainst_107 (by omega) ?_
                    exact ⟨_, rfl, (bZ_f (by unfold Ag4; omega)).symm⟩
                · refine g_iconst C dX7_isAgainst_106 ?_
                  refine g_zret (u := ()) C T dX7_isAgainst_107 (by omega) ?_
                  exact ⟨_, rfl, (bZ_f (by unfold Ag4; omega)).symm⟩
              · refine g_iconst C dX7_isAgainst_106 ?_
                refine g_zret (u := ()) C T dX7_isAgainst_107 (by omega) ?_
                exact ⟨_, rfl, (bZ_f (by unfold Ag4; omega)).symm⟩
            · exact absurd h12 (by first | decide | omega)
  · refine g_lconst 1 C dX7_isAgainst_6 (by decide) ?_
    refine g_goto 13 C dX7_isAgainst_7 (by decide) ?_
    refine g_lstore (lv' := [(0, .ref (q 0)), (1, .int (iZ 4)), (2, .long (lZ s)), (4, .long (lZ t)), (6, .long (lZ u)), (8, .long (lZ v)), (10, .long (lZ 1))]) [1, 2, 3, 4, 5, 6, 0] C dX7_isAgainst_13 (by decide) rfl ?_
    refine g_lload_n 2 C rfl dX7_isAgainst_15 rfl ?_
    refine g_lload 6 C rfl dX7_isAgainst_16 ?_
    refine g_lmul C dX7_isAgainst_18 ?_
    refine g_lconst 0 C dX7_isAgainst_19 (by decide) ?_
    refine g_lcmp_le 68 C (by unfold I64; omega) (by unfold I64; omega) dX7_isAgainst_20 dX7_isAgainst_21 (by decide) (fun h21 => ?_) (fun h21 => ?_)
    · refine g_iconst C dX7_isAgainst_68 ?_
      refine g_istore (lv' := [(0, .ref (q 0)), (1, .int (iZ 4)), (2, .long (lZ s)), (4, .long (lZ t)), (6, .long (lZ u)), (8, .long (lZ v)), (10, .long (lZ 1)), (12, .int (iZ 0))]) [1, 2, 3, 4, 5, 6, 7, 0] C dX7_isAgainst_69 (by decide) rfl ?_
      refine g_iload 7 C rfl dX7_isAgainst_71 ?_
      refine g_if_ne 78 C (by unfold I32; omega) dX7_isAgainst_73 (by decide) (fun h22 => ?_) (fun h22 => ?_)
      · exact absurd h22 (by first | decide | omega)
      refine g_iconst C dX7_isAgainst_76 ?_
      refine g_zret (u := ()) C T dX7_isAgainst_77 (by omega) ?_
      exact ⟨_, rfl, (bZ_f (by unfold Ag4; omega)).symm⟩
    · refine g_lload 3 C rfl dX7_isAgainst_24 ?_
      refine g_lload 6 C rfl dX7_isAgainst_26 ?_
      refine g_lmul C dX7_isAgainst_28 ?_
      refine g_lconst 0 C dX7_isAgainst_29 (by decide) ?_
      refine g_lcmp_le 68 C (by unfold I64; omega) (by unfold I64; omega) dX7_isAgainst_30 dX7_isAgainst_31 (by decide) (fun h23 => ?_) (fun h23 => ?_)
      · refine g_iconst C dX7_isAgainst_68 ?_
        refine g_istore (lv' := [(0, .ref (q 0)), (1, .int (iZ 4)), (2, .long (lZ s)), (4, .long (lZ t)), (6, .long (lZ u)), (8, .long (lZ v)), (10, .long (lZ 1)), (12, .int (iZ 0))]) [1, 2, 3, 4, 5, 6, 7, 0] C dX7_isAgainst_69 (by decide) rfl ?_
        refine g_iload 7 C rfl dX7_isAgainst_71 ?_
        refine g_if_ne 78 C (by unfold I32; omega) dX7_isAgainst_73 (by decide) (fun h24 => ?_) (fun h24 => ?_)
        · exact absurd h24 (by first | decide | omega)
        refine g_iconst C dX7_isAgainst_76 ?_
        refine g_zret (u := ()) C T dX7_isAgainst_77 (by omega) ?_
        exact ⟨_, rfl, (bZ_f (by unfold Ag4; omega)).symm⟩
      · refine g_iload_n 1 C rfl dX7_isAgainst_34 rfl ?_
        refine g_iconst C dX7_isAgainst_35 ?_
        refine g_icmp_lt 49 C (by unfold I32; omega) (by unfold I32; omega) dX7_isAgainst_36 (by decide) (fun h25 => ?_) (fun h25 => ?_)
        · exact absurd h25 (by first | decide | omega)
        refine g_lload 4 C rfl dX7_isAgainst_39 ?_
        refine g_lload 6 C rfl dX7_isAgainst_41 ?_
        refine g_lmul C dX7_isAgainst_43 ?_
        refine g_lconst 0 C dX7_isAgainst_44 (by decide) ?_
        refine g_lcmp_le 68 C (by unfold I64; omega) (by unfold I64; omega) dX7_isAgainst_45 dX7_isAgainst_46 (by decide) (fun h26 => ?_) (fun h26 => ?_)
        · refine g_iconst C dX7_isAgainst_68 ?_
          refine g_istore (lv' := [(0, .ref (q 0)), (1, .int (iZ 4)), (2, .long (lZ s)), (4, .long (lZ t)), (6, .long (lZ u)), (8, .long (lZ v)), (10, .long (lZ 1)), (12, .int (iZ 0))]) [1, 2, 3, 4, 5, 6, 7, 0] C dX7_isAgainst_69 (by decide) rfl ?_
          refine g_iload 7 C rfl dX7_isAgainst_71 ?_
          refine g_if_ne 78 C (by unfold I32; omega) dX7_isAgainst_73 (by decide) (fun h27 => ?_) (fun h27 => ?_)
          · exact absurd h27 (by first | decide | omega)
          refine g_iconst C dX7_isAgainst_76 ?_
          refine g_zret (u := ()) C T dX7_isAgainst_77 (by omega) ?_
          exact ⟨_, rfl, (bZ_f (by unfold Ag4; omega)).symm⟩
        · refine g_iload_n 1 C rfl dX7_isAgainst_49 rfl ?_
          refine g_iconst C dX7_isAgainst_50 ?_
          refine g_icmp_lt 64 C (by unfold I32; omega) (by unfold I32; omega) dX7_isAgainst_51 (by decide) (fun h28 => ?_) (fun h28 => ?_)
          · exact absurd h28 (by first | decide | omega)
          refine g_lload 5 C rfl dX7_isAgainst_54 ?_
          refine g_lload 6 C rfl dX7_isAgainst_56 ?_
          refine g_lmul C dX7_isAgainst_58 ?_
          refine g_lconst 0 C dX7_isAgainst_59 (by decide) ?_
          refine g_lcmp_le 68 C (by unfold I64; omega) (by unfold I64; omega) dX7_isAgainst_60 dX7_isAgainst_61 (by decide) (fun h29 => ?_) (fun h29 => ?_)
          · refine g_iconst C dX7_isAgainst_68 ?_
            refine g_istore (lv' := [(0, .ref (q 0)), (1, .int (iZ 4)), (2, .long (lZ s)), (4, .long (lZ t)), (6, .long (lZ u)), (8, .long (lZ v)), (10, .long (lZ 1)), (12, .int (iZ 0))]) [1, 2, 3, 4, 5, 6, 7, 0] C dX7_isAgainst_69 (by decide) rfl ?_
            refine g_iload 7 C rfl dX7_isAgainst_71 ?_
            refine g_if_ne 78 C (by unfold I32; omega) dX7_isAgainst_73 (by decide) (fun h30 => ?_) (fun h30 => ?_)
            · exact absurd h30 (by first | decide | omega)
            refine g_iconst C dX7_isAgainst_76 ?_
            refine g_zret (u := ()) C T dX7_isAgainst_77 (by omega) ?_
            exact ⟨_, rfl, (bZ_f (by unfold Ag4; omega)).symm⟩
          · refine g_iconst C dX7_isAgainst_64 ?_
            refine g_goto 69 C dX7_isAgainst_65 (by decide) ?_
            refine g_istore (lv' := [(0, .ref (q 0)), (1, .int (iZ 4)), (2, .long (lZ s)), (4, .long (lZ t)), (6, .long (lZ u)), (8, .long (lZ v)), (10, .long (lZ 1)), (12, .int (iZ 1))]) [1, 2, 3, 4, 5, 6, 7, 0] C dX7_isAgainst_69 (by decide) rfl ?_
            refine g_iload 7 C rfl dX7_isAgainst_71 ?_
            refine g_if_ne 78 C (by unfold I32; omega) dX7_isAgainst_73 (by decide) (fun h31 => ?_) (fun h31 => ?_)
            · refine g_iconst C dX7_isAgainst_78 ?_
              refine g_istore (lv' := [(0, .ref (q 0)), (1, .int (iZ 4)), (2, .long (lZ s)), (4, .long (lZ t)), (6, .long (lZ u)), (8, .long (lZ v)), (10, .long (lZ 1)), (12, .int (iZ 1)), (13, .int (iZ 0))]) [1, 2, 3, 4, 5, 6, 7, 8, 0] C dX7_isAgainst_79 (by decide) rfl ?_
              refine g_iload 8 C rfl dX7_isAgainst_81 ?_
              refine g_iconst C dX7_isAgainst_83 ?_
              refine g_icmp_ge 114 C (by unfold I32; omega) (by unfold I32; omega) dX7_isAgainst_84 (by decide) (fun h32 => ?_) (fun h32 => ?_)
              · exact absurd h32 (by first | decide | omega)
              refine g_aload_n 0 C rfl dX7_isAgainst_87 rfl ?_
              refine g_iload_n 1 C rfl dX7_isAgainst_88 rfl ?_
              refine g_iload 8 C rfl dX7_isAgainst_89 ?_
              refine g_lload_n 2 C rfl dX7_isAgainst_91 rfl ?_
              refine g_lload 3 C rfl dX7_isAgainst_92 ?_
              refine g_lload 4 C rfl dX7_isAgainst_94 ?_
              refine g_lload 5 C rfl dX7_isAgainst_96 ?_
              refine g_callL C (c_X7_summed4 g (c := 0) hb0 hc0 hb1 hc1 hb2 hc2 hb3 hc3 (by decide)) gv_X7_159 yd_X7_summed ⟨by decide, by decide⟩ 0 7 (WD_get (by decide)) rfl rfl (Nat.le_of_ble_eq_true rfl) dX7_isAgainst_98 ?_
              rintro _ _ rfl
              refine g_lconst 0 C dX7_isAgainst_101 (by decide) ?_
              refine g_lcmp_eq 108 C (by have h5 := hS 0 (by decide); unfold I64; omega) (by unfold I64; omega) dX7_isAgainst_102 dX7_isAgainst_103 (by decide) (fun h33 => ?_) (fun h33 => ?_)
              · refine g_iinc (lv' := [(0, .ref (q 0)), (1, .int (iZ 4)), (2, .long (lZ s)), (4, .long (lZ t)), (6, .long (lZ u)), (8, .long (lZ v)), (10, .long (lZ 1)), (12, .int (iZ 1)), (13, .int (iZ 1))]) 8 [1, 2, 3, 4, 5, 6, 7, 8, 0] C rfl dX7_isAgainst_108 (by decide) rfl ?_
                refine g_goto 81 C dX7_isAgainst_111 (by decide) ?_
                refine g_iload 8 C rfl dX7_isAgainst_81 ?_
                refine g_iconst C dX7_isAgainst_83 ?_
                refine g_icmp_ge 114 C (by unfold I32; omega) (by unfold I32; omega) dX7_isAgainst_84 (by decide) (fun h34 => ?_) (fun h34 => ?_)
                · exact absurd h34 (by first | decide | omega)
                refine g_aload_n 0 C rfl dX7_isAgainst_87 rfl ?_
                refine g_iload_n 1 C rfl dX7_isAgainst_88 rfl ?_
                refine g_iload 8 C rfl dX7_isAgainst_89 ?_
                refine g_lload_n 2 C rfl dX7_isAgainst_91 rfl ?_
                refine g_lload 3 C rfl dX7_isAgainst_92 ?_
                refine g_lload 4 C rfl dX7_isAgainst_94 ?_
                refine g_lload 5 C rfl dX7_isAgainst_96 ?_
                refine g_callL C (c_X7_summed4 g (c := 1) hb0 hc0 hb1 hc1 hb2 hc2 hb3 hc3 (by decide)) gv_X7_159 yd_X7_summed ⟨by decide, by decide⟩ 0 7 (WD_get (by decide)) rfl rfl (Nat.le_of_ble_eq_true rfl) dX7_isAgainst_98 ?_
                rintro _ _ rfl
                refine g_lconst 0 C dX7_isAgainst_101 (by decide) ?_
                refine g_lcmp_eq 108 C (by have h5 := hS 1 (by decide); unfold I64; omega) (by unfold I64; omega) dX7_isAgainst_102 dX7_isAgainst_103 (by decide) (fun h35 => ?_) (fun h35 => ?_)
                · refine g_iinc (lv' := [(0, .ref (q 0)), (1, .int (iZ 4)), (2, .long (lZ s)), (4, .long (lZ t)), (6, .long (lZ u)), (8, .long (lZ v)), (10, .long (lZ 1)), (12, .int (iZ 1)), (13, .int (iZ 2))]) 8 [1, 2, 3, 4, 5, 6, 7, 8, 0] C rfl dX7_isAgainst_108 (by decide) rfl ?_
                  refine g_goto 81 C dX7_isAgainst_111 (by decide) ?_
                  refine g_iload 8 C rfl dX7_isAgainst_81 ?_
                  refine g_iconst C dX7_isAgainst_83 ?_
                  refine g_icmp_ge 114 C (by unfold I32; omega) (by unfold I32; omega) dX7_isAgainst_84 (by decide) (fun h36 => ?_) (fun h36 => ?_)
                  · exact absurd h36 (by first | decide | omega)
                  refine g_aload_n 0 C rfl dX7_isAgainst_87 rfl ?_
                  refine g_iload_n 1 C rfl dX7_isAgainst_88 rfl ?_
                  refine g_iload 8 C rfl dX7_isAgainst_89 ?_
                  refine g_lload_n 2 C rfl dX7_isAgainst_91 rfl ?_
                  refine g_lload 3 C rfl dX7_isAgainst_92 ?_
                  refine g_lload 4 C rfl dX7_isAgainst_94 ?_
                  refine g_lload 5 C rfl dX7_isAgainst_96 ?_
                  refine g_callL C (c_X7_summed4 g (c := 2) hb0 hc0 hb1 hc1 hb2 hc2 hb3 hc3 (by decide)) gv_X7_159 yd_X7_summed ⟨by decide, by decide⟩ 0 7 (WD_get (by decide)) rfl rfl (Nat.le_of_ble_eq_true rfl) dX7_isAgainst_98 ?_
                  rintro _ _ rfl
                  refine g_lconst 0 C dX7_isAgainst_101 (by decide) ?_
                  refine g_lcmp_eq 108 C (by have h5 := hS 2 (by decide); unfold I64; omega) (by unfold I64; omega) dX7_isAgainst_102 dX7_isAgainst_103 (by decide) (fun h37 => ?_) (fun h37 => ?_)
                  · refine g_iinc (lv' := [(0, .ref (q 0)), (1, .int (iZ 4)), (2, .long (lZ s)), (4, .long (lZ t)), (6, .long (lZ u)), (8, .long (lZ v)), (10, .long (lZ 1)), (12, .int (iZ 1)), (13, .int (iZ 3))]) 8 [1, 2, 3, 4, 5, 6, 7, 8, 0] C rfl dX7_isAgainst_108 (by decide) rfl ?_
                    refine g_goto 81 C dX7_isAgainst_111 (by decide) ?_
                    refine g_iload 8 C rfl dX7_isAgainst_81 ?_
                    refine g_iconst C dX7_isAgainst_83 ?_
                    refine g_icmp_ge 114 C (by unfold I32; omega) (by unfold I32; omega) dX7_isAgainst_84 (by decide) (fun h38 => ?_) (fun h38 => ?_)
                    · refine g_aload_n 0 C rfl dX7_isAgainst_114 rfl ?_
                      refine g_iload_n 1 C rfl dX7_isAgainst_115 rfl ?_
                      refine g_iconst C dX7_isAgainst_116 ?_
                      refine g_lload_n 2 C rfl dX7_isAgainst_117 rfl ?_
                      refine g_lload 3 C rfl dX7_isAgainst_118 ?_
                      refine g_lload 4 C rfl dX7_isAgainst_120 ?_
                      refine g_lload 5 C rfl dX7_isAgainst_122 ?_
                      refine g_callL C (c_X7_summed4 g (c := 4) hb0 hc0 hb1 hc1 hb2 hc2 hb3 hc3 (by decide)) gv_X7_159 yd_X7_summed ⟨by decide, by decide⟩ 0 7 (WD_get (by decide)) rfl rfl (Nat.le_of_ble_eq_true rfl) dX7_isAgainst_124 ?_
                      rintro _ _ rfl
                      refine g_lload 6 C rfl dX7_isAgainst_127 ?_
                      refine g_lmul C dX7_isAgainst_129 ?_
                      refine g_lconst 0 C dX7_isAgainst_130 (by decide) ?_
                      refine g_lcmp_le 139 C (by have h5 := hS 4 (by decide); unfold I64; omega) (by unfold I64; omega) dX7_isAgainst_131 dX7_isAgainst_132 (by decide) (fun h39 => ?_) (fun h39 => ?_)
                      · refine g_iconst C dX7_isAgainst_139 ?_
                        refine g_zret (u := ()) C T dX7_isAgainst_140 (by omega) ?_
                        exact ⟨_, rfl, (bZ_f (by unfold Ag4; omega)).symm⟩
                      · refine g_iconst C dX7_isAgainst_135 ?_
                        refine g_goto 140 C dX7_isAgainst_136 (by decide) ?_
                        refine g_zret (u := ()) C T dX7_isAgainst_140 (by omega) ?_
                        exact ⟨_, rfl, (bZ_t (by unfold Ag4; omega)).symm⟩
                    · exact absurd h38 (by first | decide | omega)
                  · refine g_iconst C dX7_isAgainst_106 ?_
                    refine g_zret (u := ()) C T dX7_isAgainst_107 (by omega) ?_
                    exact ⟨_, rfl, (bZ_f (by unfold Ag4; omega)).symm⟩
                · refine g_iconst C dX7_isAgainst_106 ?_
                  refine g_zret (u := ()) C T dX7_isAgainst_107 (by omega) ?_
                  exact ⟨_, rfl, (bZ_f (by unfold Ag4; omega)).symm⟩
              · refine g_iconst C dX7_isAgainst_106 ?_
                refine g_zret (u := ()) C T dX7_isAgainst_107 (by omega) ?_
                exact ⟨_, rfl, (bZ_f (by unfold Ag4; omega)).symm⟩
            · exact absurd h31 (by first | decide | omega)
