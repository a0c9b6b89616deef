theorem upf_id (σ : Nat → Nat → Int) (c : Nat) : upf σ c (σ c) = σ := by
  funext c'
  by_cases h : c' = c
  · subst h; simp [upf]
  · simp [upf, h]
def atF (n : Int) (x : Nat → Int) (i v : Int) : Int × (Nat → Int) := if ¬ ((1 ≤ i ∧ i ≤ n) ∧ (0 ≤ v ∧ v ≤ 20)) then (-1, x) else if v ≤ x (i - 1).toNat ∨ (i < n ∧ x (i + 1).toNat ≤ v) then (-2, x) else (x i.toNat, updI x i.toNat v)
def edF (n : Int) (l u : Nat → Int) (i a b : Int) : Int × (Nat → Int) × (Nat → Int) := if ¬ ((0 ≤ i ∧ i ≤ n) ∧ (-20 ≤ a ∧ a ≤ b ∧ b ≤ 20)) then (-1, l, u) else (1, updI l i.toNat a, updI u i.toNat b)
def ldF (n : Int) (w : Nat → Int) (i v : Int) : Int × (Nat → Int) := if ¬ ((1 ≤ i ∧ i < n) ∧ (0 ≤ v ∧ v ≤ 10)) then (-1, w) else (w i.toNat, updI w i.toNat v)
def spF (n : Nat) (x : Nat → Int) (d : Int) : Int × (Nat → Int) := if ¬ (-10 ≤ d ∧ d ≤ 10) then (-1, x) else if ¬ (x (n - 1) < x n + d ∧ x n + d ≤ 20) then (-2, x) else (1, updI x n (x n + d))
def tdF (n : Int) (x l u w m : Nat → Int) (i k : Int) : Int := if ¬ ((0 ≤ i ∧ i ≤ n) ∧ (0 ≤ k ∧ k ≤ 4)) then -100001 else if k = 0 then x i.toNat else if k = 1 then l i.toNat else if k = 2 then u i.toNat else if k = 3 then w i.toNat else m i.toNat
def bgX (n : Nat) (x : Nat → Int) : Nat → Int := fun j => if j ≤ n then (20 * (j : Int)).tdiv n else x j
def bgC (n : Nat) (z : Int) (x : Nat → Int) : Nat → Int := fun j => if j ≤ n then z else x j
def bgS (σ : Nat → Nat → Int) (c0 k0 cx cl cu cw n : Nat) : Nat → Nat → Int := upf (upf (upf (upf (up σ c0 k0 (n : Int)) cx (bgX n (σ cx))) cl (bgC n 0 (σ cl))) cu (bgC n 1 (σ cu))) cw (bgC n 0 (σ cw))
set_option maxHeartbeats 4000000 in
set_option maxRecDepth 20000 in
theorem c_X7_at (g : Gx) {q : Nat → Nat} {σ : Nat → Nat → Int} {nn : Nat} (hn : σ 0 0 = (nn : Int)) (hn2 : 2 ≤ nn) (hn6 : nn ≤ 6) (hx : ∀ i, i ≤ nn → 0 ≤ σ 1 i ∧ σ 1 i ≤ 20) {ia va : Int} (h_ia : I32 ia) (h_va : I32 va) : MC g yX7_at cX7_at 4 ((some .int)) 1 25 (WM g q σ) [.ref (q 0), .int (iZ ia), .int (iZ va)] (fun u => WM g q u) (pI (fun z u => z = (atF nn (σ 1) ia va).1 ∧ u = upf σ 1 (atF nn (σ 1) ia va).2)) := by
  refine MC_intro (own := RX7) rfl (by decide) (Nat.le_of_ble_eq_true rfl) (fun K C T => ?_)
  show GJ g K (WM g q σ) 0 [(0, .ref (q 0)), (1, .int (iZ ia)), (2, .int (iZ va))] []
  refine g_iload_n 1 C rfl dX7_at_0 rfl ?_
  refine g_i2l C dX7_at_1 h_ia ?_
  refine g_lconst 1 C dX7_at_2 (by decide) ?_
  refine g_aload_n 0 C rfl dX7_at_3 rfl ?_
  refine gf_X7_7 C dX7_at_4 ?_
  rw [show σ 0 0 = (nn : Int) from hn]
  refine g_i2l C dX7_at_7 (by unfold I32 at *; omega) ?_
  refine g_callSI C (c_X7_in g (v := ia) (a := 1) (b := (nn : Int)) (I64_32 h_ia) (by unfold I64; omega) (I64_32 (by unfold I32; omega))) gs_X7_59 yd_X7_in ⟨by decide, by decide⟩ rfl (Nat.le_of_ble_eq_true rfl) dX7_at_8 ?_
  rintro _ rfl
  refine g_beq 26 C dX7_at_11 (by decide) (fun h1 => ?_) (fun h1 => ?_)
  · refine g_iconst C dX7_at_26 ?_
    refine g_iret (u := σ) C T dX7_at_27 ?_
    refine ⟨_, rfl, ?_⟩
    unfold atF
    (repeat' split) <;> first | exact ⟨rfl, (upf_id σ 1).symm⟩ | exact ⟨rfl, rfl⟩ | (exfalso; omega)
  · refine g_iload_n 2 C rfl dX7_at_14 rfl ?_
    refine g_i2l C dX7_at_15 h_va ?_
    refine g_lconst 0 C dX7_at_16 (by decide) ?_
    refine g_ldc2 20 C wk_X7_63 (by decide) dX7_at_17 ?_
    refine g_callSI C (c_X7_in g (v := va) (a := 0) (b := 20) (I64_32 h_va) (by unfold I64; omega) (by unfold I64; omega)) gs_X7_59 yd_X7_in ⟨by decide, by decide⟩ rfl (Nat.le_of_ble_eq_true rfl) dX7_at_20 ?_
    rintro _ rfl
    refine g_bne 28 C dX7_at_23 (by decide) (fun h2 => ?_) (fun h2 => ?_)
    · refine g_iload_n 2 C rfl dX7_at_28 rfl ?_
      refine g_aload_n 0 C rfl dX7_at_29 rfl ?_
      refine gf_X7_13 C dX7_at_30 ?_
      refine g_iload_n 1 C rfl dX7_at_33 rfl ?_
      refine g_iconst C dX7_at_34 ?_
      refine g_isub C dX7_at_35 ?_
      refine g_iald C 1 ((ia - 1).toNat) (by decide) (fun _ => rfl) (by omega) (by omega) (by decide) dX7_at_36 ?_
      refine g_icmp_le 60 C h_va (by have h5 := hx (ia - 1).toNat (by omega); unfold I32; omega) dX7_at_37 (by decide) (fun h3 => ?_) (fun h3 => ?_)
      · refine g_bipush C dX7_at_60 (by decide) ?_
        refine g_iret (u := σ) C T dX7_at_62 ?_
        refine ⟨_, rfl, ?_⟩
        unfold atF
        (repeat' split) <;> first | exact ⟨rfl, (upf_id σ 1).symm⟩ | exact ⟨rfl, rfl⟩ | (exfalso; omega)
      · refine g_iload_n 1 C rfl dX7_at_40 rfl ?_
        refine g_aload_n 0 C rfl dX7_at_41 rfl ?_
        refine gf_X7_7 C dX7_at_42 ?_
        rw [show σ 0 0 = (nn : Int) from hn]
        refine g_icmp_ge 63 C h_ia (by unfold I32 at *; omega) dX7_at_45 (by decide) (fun h4 => ?_) (fun h4 => ?_)
        · refine g_aload_n 0 C rfl dX7_at_63 rfl ?_
          refine gf_X7_13 C dX7_at_64 ?_
          refine g_iload_n 1 C rfl dX7_at_67 rfl ?_
          refine g_iald C 1 ((ia).toNat) (by decide) (fun _ => rfl) (by omega) (by omega) (by decide) dX7_at_68 ?_
          refine g_iname (fun w5 ew5 => ?_)
          refine g_istore_n (lv' := [(0, .ref (q 0)), (1, .int (iZ ia)), (2, .int (iZ va)), (3, .int (iZ w5))]) [1, 2, 3, 0] C dX7_at_69 rfl (by decide) rfl ?_
          refine g_aload_n 0 C rfl dX7_at_70 rfl ?_
          refine gf_X7_13 C dX7_at_71 ?_
          refine g_iload_n 1 C rfl dX7_at_74 rfl ?_
          refine g_iload_n 2 C rfl dX7_at_75 rfl ?_
          refine g_iast C 1 ((ia).toNat) (by decide) (fun _ => rfl) (by omega) (by omega) (by decide) dX7_at_76 ?_
          refine g_iload_n 3 C rfl dX7_at_77 rfl ?_
          refine g_iret (u := (up σ 1 ((ia).toNat) va)) C T dX7_at_78 ?_
          refine ⟨_, rfl, ?_⟩
          subst ew5
          unfold atF
          (repeat' split) <;> first | exact ⟨rfl, (upf_id σ 1).symm⟩ | exact ⟨rfl, rfl⟩ | (exfalso; omega)
        · refine g_iload_n 2 C rfl dX7_at_48 rfl ?_
          refine g_aload_n 0 C rfl dX7_at_49 rfl ?_
          refine gf_X7_13 C dX7_at_50 ?_
          refine g_iload_n 1 C rfl dX7_at_53 rfl ?_
          refine g_iconst C dX7_at_54 ?_
          refine g_iadd C dX7_at_55 ?_
          refine g_iald C 1 ((ia + 1).toNat) (by decide) (fun _ => rfl) (by omega) (by omega) (by decide) dX7_at_56 ?_
          refine g_icmp_lt 63 C h_va (by have h5 := hx (ia + 1).toNat (by omega); unfold I32; omega) dX7_at_57 (by decide) (fun h6 => ?_) (fun h6 => ?_)
          · refine g_aload_n 0 C rfl dX7_at_63 rfl ?_
            refine gf_X7_13 C dX7_at_64 ?_
            refine g_iload_n 1 C rfl dX7_at_67 rfl ?_
            refine g_iald C 1 ((ia).toNat) (by decide) (fun _ => rfl) (by omega) (by omega) (by decide) dX7_at_68 ?_
            refine g_iname (fun w7 ew7 => ?_)
            refine g_istore_n (lv' := [(0, .ref (q 0)), (1, .int (iZ ia)), (2, .int (iZ va)), (3, .int (iZ w7))]) [1, 2, 3, 0] C dX7_at_69 rfl (by decide) rfl ?_
            refine g_aload_n 0 C rfl dX7_at_70 rfl ?_
            refine gf_X7_13 C dX7_at_71 ?_
            refine g_iload_n 1 C rfl dX7_at_74 rfl ?_
            refine g_iload_n 2 C rfl dX7_at_75 rfl ?_
            refine g_iast C 1 ((ia).toNat) (by decide) (fun _ => rfl) (by omega) (by omega) (by decide) dX7_at_76 ?_
            refine g_iload_n 3 C rfl dX7_at_77 rfl ?_
            refine g_iret (u := (up σ 1 ((ia).toNat) va)) C T dX7_at_78 ?_
            refine ⟨_, rfl, ?_⟩
            subst ew7
            unfold atF
            (repeat' split) <;> first | exact ⟨rfl, (upf_id σ 1).symm⟩ | exact ⟨rfl, rfl⟩ | (exfalso; omega)
          · refine g_bipush C dX7_at_60 (by decide) ?_
            refine g_iret (u := σ) C T dX7_at_62 ?_
            refine ⟨_, rfl, ?_⟩
            unfold atF
            (repeat' split) <;> first | exact ⟨rfl, (upf_id σ 1).symm⟩ | exact ⟨rfl, rfl⟩ | (exfalso; omega)
    · refine g_iconst C dX7_at_26 ?_
      refine g_iret (u := σ) C T dX7_at_27 ?_
      refine ⟨_, rfl, ?_⟩
      unfold atF
      (repeat' split) <;> first | exact ⟨rfl, (upf_id σ 1).symm⟩ | exact ⟨rfl, rfl⟩ | (exfalso; omega)
set_option maxHeartbeats 4000000 in
set_option maxRecDepth 20000 in
theorem c_X7_edges (g : Gx) {q : Nat → Nat} {σ : Nat → Nat → Int} {nn : Nat} (hn : σ 0 0 = (nn : Int)) (hn2 : 2 ≤ nn) (hn6 : nn ≤ 6) {ia la ua : Int} (h_ia : I32 ia) (h_la : I32 la) (h_ua : I32 ua) : MC g yX7_edges cX7_edges 4 ((some .int)) 1 25 (WM g q σ) [.ref (q 0), .int (iZ ia), .int (iZ la), .int (iZ ua)] (fun u => WM g q u) (pI (fun z u => z = (edF nn (σ 2) (σ 3) ia la ua).1 ∧ u = upf (upf σ 2 (edF nn (σ 2) (σ 3) ia la ua).2.1) 3 (edF nn (σ 2) (σ 3) ia la ua).2.2)) := by
  refine MC_intro (own := RX7) rfl (by decide) (Nat.le_of_ble_eq_true rfl) (fun K C T => ?_)
  show GJ g K (WM g q σ) 0 [(0, .ref (q 0)), (1, .int (iZ ia)), (2, .int (iZ la)), (3, .int (iZ ua))] []
  refine g_iload_n 1 C rfl dX7_edges_0 rfl ?_
  refine g_i2l C dX7_edges_1 h_ia ?_
  refine g_lconst 0 C dX7_edges_2 (by decide) ?_
  refine g_aload_n 0 C rfl dX7_edges_3 rfl ?_
  refine gf_X7_7 C dX7_edges_4 ?_
  rw [show σ 0 0 = (nn : Int) from hn]
  refine g_i2l C dX7_edges_7 (by unfold I32 at *; omega) ?_
  refine g_callSI C (c_X7_in g (v := ia) (a := 0) (b := (nn : Int)) (I64_32 h_ia) (by unfold I64; omega) (I64_32 (by unfold I32; omega))) gs_X7_59 yd_X7_in ⟨by decide, by decide⟩ rfl (Nat.le_of_ble_eq_true rfl) dX7_edges_8 ?_
  rintro _ rfl
  refine g_beq 41 C dX7_edges_11 (by decide) (fun h1 => ?_) (fun h1 => ?_)
  · refine g_iconst C dX7_edges_41 ?_
    refine g_iret (u := σ) C T dX7_edges_42 ?_
    refine ⟨_, rfl, ?_⟩
    unfold edF
    (repeat' split) <;> first | exact ⟨rfl, by rw [upf_id, upf_id]⟩ | exact ⟨rfl, rfl⟩ | (exfalso; omega)
  · refine g_iload_n 2 C rfl dX7_edges_14 rfl ?_
    refine g_i2l C dX7_edges_15 h_la ?_
    refine g_ldc2 (-20) C wk_X7_65 (by decide) dX7_edges_16 ?_
    refine g_iload_n 3 C rfl dX7_edges_19 rfl ?_
    refine g_i2l C dX7_edges_20 h_ua ?_
    refine g_callSI C (c_X7_in g (v := la) (a := (-20)) (b := ua) (I64_32 h_la) (by unfold I64; omega) (I64_32 h_ua)) gs_X7_59 yd_X7_in ⟨by decide, by decide⟩ rfl (Nat.le_of_ble_eq_true rfl) dX7_edges_21 ?_
    rintro _ rfl
    refine g_beq 41 C dX7_edges_24 (by decide) (fun h2 => ?_) (fun h2 => ?_)
    · refine g_iconst C dX7_edges_41 ?_
      refine g_iret (u := σ) C T dX7_edges_42 ?_
      refine ⟨_, rfl, ?_⟩
      unfold edF
      (repeat' split) <;> first | exact ⟨rfl, by rw [upf_id, upf_id]⟩ | exact ⟨rfl, rfl⟩ | (exfalso; omega)
    · refine g_iload_n 3 C rfl dX7_edges_27 rfl ?_
      refine g_i2l C dX7_edges_28 h_ua ?_
      refine g_ldc2 (-20) C wk_X7_65 (by decide) dX7_edges_29 ?_
      refine g_ldc2 20 C wk_X7_63 (by decide) dX7_edges_32 ?_
      refine g_callSI C (c_X7_in g (v := ua) (a := (-20)) (b := 20) (I64_32 h_ua) (by unfold I64; omega) (by unfold I64; omega)) gs_X7_59 yd_X7_in ⟨by decide, by decide⟩ rfl (Nat.le_of_ble_eq_true rfl) dX7_edges_35 ?_
      rintro _ rfl
      refine g_bne 43 C dX7_edges_38 (by decide) (fun h3 => ?_) (fun h3 => ?_)
      · refine g_aload_n 0 C rfl dX7_edges_43 rfl ?_
        refine gf_X7_17 C dX7_edges_44 ?_
        refine g_iload_n 1 C rfl dX7_edges_47 rfl ?_
        refine g_iload_n 2 C rfl dX7_edges_48 rfl ?_
        refine g_iast C 2 ((ia).toNat) (by decide) (fun _ => rfl) (by omega) (by omega) (by decide) dX7_edges_49 ?_
        refine g_aload_n 0 C rfl dX7_edges_50 rfl ?_
        refine gf_X7_20 C dX7_edges_51 ?_
        refine g_iload_n 1 C rfl dX7_edges_54 rfl ?_
        refine g_iload_n 3 C rfl dX7_edges_55 rfl ?_
        refine g_iast C 3 ((ia).toNat) (by decide) (fun _ => rfl) (by omega) (by omega) (by decide) dX7_edges_56 ?_
        refine g_iconst C dX7_edges_57 ?_
        refine g_iret (u := (up (up σ 2 ((ia).toNat) la) 3 ((ia).toNat) ua)) C T dX7_edges_58 ?_
        refine ⟨_, rfl, ?_⟩
        unfold edF
        (repeat' split) <;> first | exact ⟨rfl, by rw [upf_id, upf_id]⟩ | exact ⟨rfl, rfl⟩ | (exfalso; omega)
      · refine g_iconst C dX7_edges_41 ?_
        refine g_iret (u := σ) C T dX7_edges_42 ?_
        refine ⟨_, rfl, ?_⟩
        unfold edF
        (repeat' split) <;> first | exact ⟨rfl, by rw [upf_id, upf_id]⟩ | exact ⟨rfl, rfl⟩ | (exfalso; omega)
set_option maxHeartbeats 4000000 in
set_option maxRecDepth 20000 in
theorem c_X7_load (g : Gx) {q : Nat → Nat} {σ : Nat → Nat → Int} {nn : Nat} (hn : σ 0 0 = (nn : Int)) (hn2 : 2 ≤ nn) (hn6 : nn ≤ 6) {ia wa : Int} (h_ia : I32 ia) (h_wa : I32 wa) : MC g yX7_load cX7_load 4 ((some .int)) 1 25 (WM g q σ) [.ref (q 0), .int (iZ ia), .int (iZ wa)] (fun u => WM g q u) (pI (fun z u => z = (ldF nn (σ 4) ia wa).1 ∧ u = upf σ 4 (ldF nn (σ 4) ia wa).2)) := by
  refine MC_intro (own := RX7) rfl (by decide) (Nat.le_of_ble_eq_true rfl) (fun K C T => ?_)
  show GJ g K (WM g q σ) 0 [(0, .ref (q 0)), (1, .int (iZ ia)), (2, .int (iZ wa))] []
  refine g_iload_n 1 C rfl dX7_load_0 rfl ?_
  refine g_i2l C dX7_load_1 h_ia ?_
  refine g_lconst 1 C dX7_load_2 (by decide) ?_
  refine g_aload_n 0 C rfl dX7_load_3 rfl ?_
  refine gf_X7_7 C dX7_load_4 ?_
  rw [show σ 0 0 = (nn : Int) from hn]
  refine g_iconst C dX7_load_7 ?_
  refine g_isub C dX7_load_8 ?_
  refine g_i2l C dX7_load_9 (by unfold I32 at *; omega) ?_
  refine g_callSI C (c_X7_in g (v := ia) (a := 1) (b := (nn : Int) - 1) (I64_32 h_ia) (by unfold I64; omega) (I64_32 (by unfold I32; omega))) gs_X7_59 yd_X7_in ⟨by decide, by decide⟩ rfl (Nat.le_of_ble_eq_true rfl) dX7_load_10 ?_
  rintro _ rfl
  refine g_beq 28 C dX7_load_13 (by decide) (fun h1 => ?_) (fun h1 => ?_)
  · refine g_iconst C dX7_load_28 ?_
    refine g_iret (u := σ) C T dX7_load_29 ?_
    refine ⟨_, rfl, ?_⟩
    unfold ldF
    (repeat' split) <;> first | exact ⟨rfl, (upf_id σ 4).symm⟩ | exact ⟨rfl, rfl⟩ | (exfalso; omega)
  · refine g_iload_n 2 C rfl dX7_load_16 rfl ?_
    refine g_i2l C dX7_load_17 h_wa ?_
    refine g_lconst 0 C dX7_load_18 (by decide) ?_
    refine g_ldc2 10 C wk_X7_67 (by decide) dX7_load_19 ?_
    refine g_callSI C (c_X7_in g (v := wa) (a := 0) (b := 10) (I64_32 h_wa) (by unfold I64; omega) (by unfold I64; omega)) gs_X7_59 yd_X7_in ⟨by decide, by decide⟩ rfl (Nat.le_of_ble_eq_true rfl) dX7_load_22 ?_
    rintro _ rfl
    refine g_bne 30 C dX7_load_25 (by decide) (fun h2 => ?_) (fun h2 => ?_)
    · refine g_aload_n 0 C rfl dX7_load_30 rfl ?_
      refine gf_X7_23 C dX7_load_31 ?_
      refine g_iload_n 1 C rfl dX7_load_34 rfl ?_
      refine g_iald C 4 ((ia).toNat) (by decide) (fun _ => rfl) (by omega) (by omega) (by decide) dX7_load_35 ?_
      refine g_iname (fun w3 ew3 => ?_)
      refine g_istore_n (lv' := [(0, .ref (q 0)), (1, .int (iZ ia)), (2, .int (iZ wa)), (3, .int (iZ w3))]) [1, 2, 3, 0] C dX7_load_36 rfl (by decide) rfl ?_
      refine g_aload_n 0 C rfl dX7_load_37 rfl ?_
      refine gf_X7_23 C dX7_load_38 ?_
      refine g_iload_n 1 C rfl dX7_load_41 rfl ?_
      refine g_iload_n 2 C rfl dX7_load_42 rfl ?_
      refine g_iast C 4 ((ia).toNat) (by decide) (fun _ => rfl) (by omega) (by omega) (by decide) dX7_load_43 ?_
      refine g_iload_n 3 C rfl dX7_load_44 rfl ?_
      refine g_iret (u := (up σ 4 ((ia).toNat) wa)) C T dX7_load_45 ?_
      refine ⟨_, rfl, ?_⟩
      subst ew3
      unfold ldF
      (repeat' split) <;> first | exact ⟨rfl, (upf_id σ 4).symm⟩ | exact ⟨rfl, rfl⟩ | (exfalso; omega)
    · refine g_iconst C dX7_load_28 ?_
      refine g_iret (u := σ) C T dX7_load_29 ?_
      refine ⟨_, rfl, ?_⟩
      unfold ldF
      (repeat' split) <;> first | exact ⟨rfl, (upf_id σ 4).symm⟩ | exact ⟨rfl, rfl⟩ | (exfalso; omega)
set_option maxHeartbeats 4000000 in
set_option maxRecDepth 20000 in
theorem c_X7_spread (g : Gx) {q : Nat → Nat} {σ : Nat → Nat → Int} {nn : Nat} (hn : σ 0 0 = (nn : Int)) (hn2 : 2 ≤ nn) (hn6 : nn ≤ 6) (hx : ∀ i, i ≤ nn → 0 ≤ σ 1 i ∧ σ 1 i ≤ 20) {da : Int} (h_da : I32 da) : MC g yX7_spread cX7_spread 2 ((some .int)) 1 25 (WM g q σ) [.ref (q 0), .int (iZ da)] (fun u => WM g q u) (pI (fun z u => z = (spF nn (σ 1) da).1 ∧ u = upf σ 1 (spF nn (σ 1) da).2)) := by
  refine MC_intro (own := RX7) rfl (by decide) (Nat.le_of_ble_eq_true rfl) (fun K C T => ?_)
  show GJ g K (WM g q σ) 0 [(0, .ref (q 0)), (1, .int (iZ da))] []
  refine g_iload_n 1 C rfl dX7_spread_0 rfl ?_
  refine g_i2l C dX7_spread_1 h_da ?_
  refine g_ldc2 (-10) C wk_X7_204 (by decide) dX7_spread_2 ?_
  refine g_ldc2 10 C wk_X7_67 (by decide) dX7_spread_5 ?_
  refine g_callSI C (c_X7_in g (v := da) (a := (-10)) (b := 10) (I64_32 h_da) (by unfold I64; omega) (by unfold I64; omega)) gs_X7_59 yd_X7_in ⟨by decide, by decide⟩ rfl (Nat.le_of_ble_eq_true rfl) dX7_spread_8 ?_
  rintro _ rfl
  refine g_bne 16 C dX7_spread_11 (by decide) (fun h1 => ?_) (fun h1 => ?_)
  · refine g_aload_n 0 C rfl dX7_spread_16 rfl ?_
    refine gf_X7_13 C dX7_spread_17 ?_
    refine g_aload_n 0 C rfl dX7_spread_20 rfl ?_
    refine gf_X7_7 C dX7_spread_21 ?_
    rw [show σ 0 0 = (nn : Int) from hn]
    refine g_iald C 1 nn (by decide) (fun _ => rfl) (by omega) (by omega) (by decide) dX7_spread_24 ?_
    refine g_iload_n 1 C rfl dX7_spread_25 rfl ?_
    refine g_iadd C dX7_spread_26 ?_
    refine g_i2l C dX7_spread_27 (by have h5 := hx nn (by omega); have h6 := hx (nn - 1) (by omega); unfold I32; omega) ?_
    refine g_aload_n 0 C rfl dX7_spread_28 rfl ?_
    refine gf_X7_13 C dX7_spread_29 ?_
    refine g_aload_n 0 C rfl dX7_spread_32 rfl ?_
    refine gf_X7_7 C dX7_spread_33 ?_
    rw [show σ 0 0 = (nn : Int) from hn]
    refine g_iconst C dX7_spread_36 ?_
    refine g_isub C dX7_spread_37 ?_
    refine g_iald C 1 (nn - 1) (by decide) (fun _ => rfl) (by omega) (by omega) (by decide) dX7_spread_38 ?_
    refine g_iconst C dX7_spread_39 ?_
    refine g_iadd C dX7_spread_40 ?_
    refine g_i2l C dX7_spread_41 (by have h5 := hx nn (by omega); have h6 := hx (nn - 1) (by omega); unfold I32; omega) ?_
    refine g_ldc2 20 C wk_X7_63 (by decide) dX7_spread_42 ?_
    refine g_callSI C (c_X7_in g (v := (σ 1 nn) + da) (a := (σ 1 (nn - 1)) + 1) (b := 20) (by have h5 := hx nn (by omega); have h6 := hx (nn - 1) (by omega); unfold I64; omega) (by have h5 := hx nn (by omega); have h6 := hx (nn - 1) (by omega); unfold I64; omega) (by unfold I64; omega)) gs_X7_59 yd_X7_in ⟨by decide, by decide⟩ rfl (Nat.le_of_ble_eq_true rfl) dX7_spread_45 ?_
    rintro _ rfl
    refine g_bne 54 C dX7_spread_48 (by decide) (fun h2 => ?_) (fun h2 => ?_)
    · refine g_aload_n 0 C rfl dX7_spread_54 rfl ?_
      refine gf_X7_13 C dX7_spread_55 ?_
      refine g_aload_n 0 C rfl dX7_spread_58 rfl ?_
      refine gf_X7_7 C dX7_spread_59 ?_
      rw [show σ 0 0 = (nn : Int) from hn]
      refine g_dup2 C dX7_spread_62 rfl rfl ?_
      refine g_iald C 1 nn (by decide) (fun _ => rfl) (by omega) (by omega) (by decide) dX7_spread_63 ?_
      refine g_iload_n 1 C rfl dX7_spread_64 rfl ?_
      refine g_iadd C dX7_spread_65 ?_
      refine g_iast C 1 nn (by decide) (fun _ => rfl) (by omega) (by omega) (by decide) dX7_spread_66 ?_
      refine g_iconst C dX7_spread_67 ?_
      refine g_iret (u := (up σ 1 nn ((σ 1 nn) + da))) C T dX7_spread_68 ?_
      refine ⟨_, rfl, ?_⟩
      unfold spF
      (repeat' split) <;> first | exact ⟨rfl, (upf_id σ 1).symm⟩ | exact ⟨rfl, rfl⟩ | (exfalso; omega)
    · refine g_bipush C dX7_spread_51 (by decide) ?_
      refine g_iret (u := σ) C T dX7_spread_53 ?_
      refine ⟨_, rfl, ?_⟩
      unfold spF
      (repeat' split) <;> first | exact ⟨rfl, (upf_id σ 1).symm⟩ | exact ⟨rfl, rfl⟩ | (exfalso; omega)
  · refine g_iconst C dX7_spread_14 ?_
    refine g_iret (u := σ) C T dX7_spread_15 ?_
    refine ⟨_, rfl, ?_⟩
    unfold spF
    (repeat' split) <;> first | exact ⟨rfl, (upf_id σ 1).symm⟩ | exact ⟨rfl, rfl⟩ | (exfalso; omega)
set_option maxHeartbeats 4000000 in
set_option maxRecDepth 20000 in
theorem c_X7_told (g : Gx) {q : Nat → Nat} {σ : Nat → Nat → Int} {nn : Nat} (hn : σ 0 0 = (nn : Int)) (hn2 : 2 ≤ nn) (hn6 : nn ≤ 6) {ia ka : Int} (h_ia : I32 ia) (h_ka : I32 ka) : MC g yX7_told cX7_told 3 ((some .int)) 1 25 (WM g q σ) [.ref (q 0), .int (iZ ia), .int (iZ ka)] (fun _ : Unit => WM g q σ) (pI (fun z _ => z = tdF nn (σ 1) (σ 2) (σ 3) (σ 4) (moM σ nn) ia ka)) := by
  refine MC_intro (own := RX7) rfl (by decide) (Nat.le_of_ble_eq_true rfl) (fun K C T => ?_)
  show GJ g K (WM g q σ) 0 [(0, .ref (q 0)), (1, .int (iZ ia)), (2, .int (iZ ka))] []
  refine g_iload_n 1 C rfl dX7_told_0 rfl ?_
  refine g_i2l C dX7_told_1 h_ia ?_
  refine g_lconst 0 C dX7_told_2 (by decide) ?_
  refine g_aload_n 0 C rfl dX7_told_3 rfl ?_
  refine gf_X7_7 C dX7_told_4 ?_
  rw [show σ 0 0 = (nn : Int) from hn]
  refine g_i2l C dX7_told_7 (by unfold I32 at *; omega) ?_
  refine g_callSI C (c_X7_in g (v := ia) (a := 0) (b := (nn : Int)) (I64_32 h_ia) (by unfold I64; omega) (I64_32 (by unfold I32; omega))) gs_X7_59 yd_X7_in ⟨by decide, by decide⟩ rfl (Nat.le_of_ble_eq_true rfl) dX7_told_8 ?_
  rintro _ rfl
  refine g_beq 26 C dX7_told_11 (by decide) (fun h1 => ?_) (fun h1 => ?_)
  · refine g_ldc (-100001) C wk_X7_77 (by decide) dX7_told_26 ?_
    refine g_iret (u := ()) C T dX7_told_28 ?_
    refine ⟨_, rfl, ?_⟩
    unfold tdF
    (repeat' split) <;> first | rfl | (exfalso; omega)
  · refine g_iload_n 2 C rfl dX7_told_14 rfl ?_
    refine g_i2l C dX7_told_15 h_ka ?_
    refine g_lconst 0 C dX7_told_16 (by decide) ?_
    refine g_ldc2 4 C wk_X7_75 (by decide) dX7_told_17 ?_
    refine g_callSI C (c_X7_in g (v := ka) (a := 0) (b := 4) (I64_32 h_ka) (by unfold I64; omega) (by unfold I64; omega)) gs_X7_59 yd_X7_in ⟨by decide, by decide⟩ rfl (Nat.le_of_ble_eq_true rfl) dX7_told_20 ?_
    rintro _ rfl
    refine g_bne 29 C dX7_told_23 (by decide) (fun h2 => ?_) (fun h2 => ?_)
    · refine g_iload_n 2 C rfl dX7_told_29 rfl ?_
      refine g_if_ne 42 C h_ka dX7_told_30 (by decide) (fun h3 => ?_) (fun h3 => ?_)
      · refine g_iload_n 2 C rfl dX7_told_42 rfl ?_
        refine g_iconst C dX7_told_43 ?_
        refine g_icmp_ne 56 C h_ka (by unfold I32 at *; omega) dX7_told_44 (by decide) (fun h4 => ?_) (fun h4 => ?_)
        · refine g_iload_n 2 C rfl dX7_told_56 rfl ?_
          refine g_iconst C dX7_told_57 ?_
          refine g_icmp_ne 70 C h_ka (by unfold I32 at *; omega) dX7_told_58 (by decide) (fun h5 => ?_) (fun h5 => ?_)
          · refine g_iload_n 2 C rfl dX7_told_70 rfl ?_
            refine g_iconst C dX7_told_71 ?_
            refine g_icmp_ne 84 C h_ka (by unfold I32 at *; omega) dX7_told_72 (by decide) (fun h6 => ?_) (fun h6 => ?_)
            · refine g_aload_n 0 C rfl dX7_told_84 rfl ?_
              refine g_iload_n 1 C rfl dX7_told_85 rfl ?_
              have hii : ia = ((ia.toNat : Nat) : Int) := by omega
              have hmo := c_X7_momentAt g (q := q) (σ := σ) (nn := nn) (i := ia.toNat) hn hn2 hn6 (by omega)
              rw [← hii] at hmo
              refine g_callI C hmo gv_X7_78 yd_X7_momentAt ⟨by decide, by decide⟩ 0 7 (WD_get (by decide)) rfl rfl (Nat.le_of_ble_eq_true rfl) dX7_told_86 ?_
              rintro _ _ rfl
              change GJ g K _ _ _ (.int (iZ (moM σ nn ia.toNat)) :: _)
              refine g_iret (u := ()) C T dX7_told_89 ?_
              refine ⟨_, rfl, ?_⟩
              unfold tdF
              (repeat' split) <;> first | rfl | (exfalso; omega)
            · refine g_aload_n 0 C rfl dX7_told_75 rfl ?_
              refine gf_X7_23 C dX7_told_76 ?_
              refine g_iload_n 1 C rfl dX7_told_79 rfl ?_
              refine g_iald C 4 ((ia).toNat) (by decide) (fun _ => rfl) (by omega) (by omega) (by decide) dX7_told_80 ?_
              refine g_goto 89 C dX7_told_81 (by decide) ?_
              refine g_iret (u := ()) C T dX7_told_89 ?_
              refine ⟨_, rfl, ?_⟩
              unfold tdF
              (repeat' split) <;> first | rfl | (exfalso; omega)
          · refine g_aload_n 0 C rfl dX7_told_61 rfl ?_
            refine gf_X7_20 C dX7_told_62 ?_
            refine g_iload_n 1 C rfl dX7_told_65 rfl ?_
            refine g_iald C 3 ((ia).toNat) (by decide) (fun _ => rfl) (by omega) (by omega) (by decide) dX7_told_66 ?_
            refine g_goto 89 C dX7_told_67 (by decide) ?_
            refine g_iret (u := ()) C T dX7_told_89 ?_
            refine ⟨_, rfl, ?_⟩
            unfold tdF
            (repeat' split) <;> first | rfl | (exfalso; omega)
        · refine g_aload_n 0 C rfl dX7_told_47 rfl ?_
          refine gf_X7_17 C dX7_told_48 ?_
          refine g_iload_n 1 C rfl dX7_told_51 rfl ?_
          refine g_iald C 2 ((ia).toNat) (by decide) (fun _ => rfl) (by omega) (by omega) (by decide) dX7_told_52 ?_
          refine g_goto 89 C dX7_told_53 (by decide) ?_
          refine g_iret (u := ()) C T dX7_told_89 ?_
          refine ⟨_, rfl, ?_⟩
          unfold tdF
          (repeat' split) <;> first | rfl | (exfalso; omega)
      · refine g_aload_n 0 C rfl dX7_told_33 rfl ?_
        refine gf_X7_13 C dX7_told_34 ?_
        refine g_iload_n 1 C rfl dX7_told_37 rfl ?_
        refine g_iald C 1 ((ia).toNat) (by decide) (fun _ => rfl) (by omega) (by omega) (by decide) dX7_told_38 ?_
        refine g_goto 89 C dX7_told_39 (by decide) ?_
        refine g_iret (u := ()) C T dX7_told_89 ?_
        refine ⟨_, rfl, ?_⟩
        unfold tdF
        (repeat' split) <;> first | rfl | (exfalso; omega)
    · refine g_ldc (-100001) C wk_X7_77 (by decide) dX7_told_26 ?_
      refine g_iret (u := ()) C T dX7_told_28 ?_
      refine ⟨_, rfl, ?_⟩
      unfold tdF
      (repeat' split) <;> first | rfl | (exfalso; omega)
theorem bg_step {α : Type} {f g : Nat → α} (h : ∀ c, f c = g c) : f = g := funext h
theorem bgX_s {n i : Nat} {x t : Nat → Int} (hi : i ≤ n) (ht : ∀ j, t j = if j < i then (20 * (j : Int)).tdiv n else x j) : ∀ j, updI t i ((20 * (i : Int)).tdiv n) j = if j < i + 1 then (20 * (j : Int)).tdiv n else x j := by
  intro j
  unfold updI
  by_cases h : j = i
  · subst h; rw [if_pos rfl, if_pos (by omega)]
  · rw [if_neg h, ht j]
    by_cases h2 : j < i
    · rw [if_pos h2, if_pos (by omega)]
    · rw [if_neg h2, if_neg (by omega)]
theorem bgC_s {i : Nat} {z : Int} {x t : Nat → Int} (ht : ∀ j, t j = if j < i then z else x j) : ∀ j, updI t i z j = if j < i + 1 then z else x j := by
  intro j
  unfold updI
  by_cases h : j = i
  · subst h; rw [if_pos rfl, if_pos (by omega)]
  · rw [if_neg h, ht j]
    by_cases h2 : j < i
    · rw [if_pos h2, if_pos (by omega)]
    · rw [if_neg h2, if_neg (by omega)]
/-- what a begun arch is at the head of the loop, i joints done -/
def BgI (σ τ : Nat → Nat → Int) (c0 k0 cx cl cu cw n i : Nat) : Prop := (∀ c, c ≠ c0 → c ≠ cx → c ≠ cl → c ≠ cu → c ≠ cw → τ c = σ c) ∧ (∀ k, k ≠ k0 → τ c0 k = σ c0 k) ∧ τ c0 k0 = (n : Int) ∧ (∀ j, τ cx j = if j < i then (20 * (j : Int)).tdiv n else σ cx j) ∧ (∀ j, τ cl j = if j < i then 0 else σ cl j) ∧ (∀ j, τ cu j = if j < i then 1 else σ cu j) ∧ ∀ j, τ cw j = if j < i then 0 else σ cw j
theorem bg_end {σ τ : Nat → Nat → Int} {c0 k0 cx cl cu cw n : Nat} (hd : c0 ≠ cx ∧ c0 ≠ cl ∧ c0 ≠ cu ∧ c0 ≠ cw ∧ cx ≠ cl ∧ cx ≠ cu ∧ cx ≠ cw ∧ cl ≠ cu ∧ cl ≠ cw ∧ cu ≠ cw) (h : BgI σ τ c0 k0 cx cl cu cw n (n + 1)) : τ = bgS σ c0 k0 cx cl cu cw n := by
  obtain ⟨d1, d2, d3, d4, d5, d6, d7, d8, d9, d10⟩ := hd
  obtain ⟨h1, h2, h3, h4, h5, h6, h7⟩ := h
  funext c j
  unfold bgS
  by_cases e1 : c = cw
  · subst e1; simp only [upf, if_true]; rw [h7]; unfold bgC; simp only [Nat.lt_succ_iff]
  · by_cases e2 : c = cu
    · subst e2; simp only [upf, if_neg e1, if_true]; rw [h6]; unfold bgC; simp only [Nat.lt_succ_iff]
    · by_cases e3 : c = cl
      · subst e3; simp only [upf, if_neg e1, if_neg e2, if_true]; rw [h5]; unfold bgC; simp only [Nat.lt_succ_iff]
      · by_cases e4 : c = cx
        · subst e4; simp only [upf, if_neg e1, if_neg e2, if_neg e3, if_true]; rw [h4]; unfold bgX; simp only [Nat.lt_succ_iff]
        · simp only [upf, if_neg e1, if_neg e2, if_neg e3, if_neg e4]
          by_cases e5 : c = c0
          · subst e5
            by_cases e6 : j = k0
            · subst e6; rw [up_s, h3]
            · rw [up_k e6, h2 j e6]
          · rw [up_c e5, h1 c e5 e4 e3 e2 e1]
set_option maxHeartbeats 4000000 in
set_option maxRecDepth 20000 in
theorem lp_X7_begin {g : Gx} {K : Kx} {q : Nat → Nat} {σ : Nat → Nat → Int} {nn : Nat} (hn2 : 2 ≤ nn) (hn6 : nn ≤ 6) (C : CX g K cX7_begin RX7 3 0 0) (T : RT g K none (fun u => WM g q u) (pV (fun u => u = bgS σ 0 0 1 2 3 4 nn))) : ∀ (d i : Nat), i ≤ nn + 1 → nn + 1 < i + d → ∀ τ : Nat → Nat → Int, BgI σ τ 0 0 1 2 3 4 nn i → GJ g K (WM g q τ) 7 [(0, .ref (q 0)), (1, .int (iZ (nn : Int))), (2, .int (iZ (i : Int)))] [] := by
  intro d
  induction d with
  | zero => intro i k1 k2; omega
  | succ d ih =>
    intro i k1 k2 τ hB
    refine g_iload_n 2 C rfl dX7_begin_7 rfl ?_
    refine g_aload_n 0 C rfl dX7_begin_8 rfl ?_
    refine gf_X7_7 C dX7_begin_9 ?_
    rw [show τ 0 0 = (nn : Int) from hB.2.2.1]
    refine g_icmp_gt 57 C (by unfold I32; omega) (by unfold I32; omega) dX7_begin_12 (by decide) (fun h1 => ?_) (fun h1 => ?_)
    · refine g_vret (u := τ) C T dX7_begin_57 ?_
      obtain rfl : i = nn + 1 := by omega
      exact ⟨rfl, bg_end (by decide) hB⟩
    · refine g_aload_n 0 C rfl dX7_begin_15 rfl ?_
      refine gf_X7_13 C dX7_begin_16 ?_
      refine g_iload_n 2 C rfl dX7_begin_19 rfl ?_
      refine g_bipush C dX7_begin_20 (by decide) ?_
      refine g_iload_n 2 C rfl dX7_begin_22 rfl ?_
      refine g_imul C dX7_begin_23 ?_
      refine g_aload_n 0 C rfl dX7_begin_24 rfl ?_
      refine gf_X7_7 C dX7_begin_25 ?_
      rw [show τ 0 0 = (nn : Int) from hB.2.2.1]
      refine g_idiv C dX7_begin_28 (by unfold I32; omega) (by unfold I32; omega) (by omega) ?_
      refine g_iast C 1 i (by decide) (fun _ => rfl) (by omega) (by omega) (by decide) dX7_begin_29 ?_
      refine g_aload_n 0 C rfl dX7_begin_30 rfl ?_
      refine gf_X7_17 C dX7_begin_31 ?_
      refine g_iload_n 2 C rfl dX7_begin_34 rfl ?_
      refine g_iconst C dX7_begin_35 ?_
      refine g_iast C 2 i (by decide) (fun _ => rfl) (by omega) (by omega) (by decide) dX7_begin_36 ?_
      refine g_aload_n 0 C rfl dX7_begin_37 rfl ?_
      refine gf_X7_20 C dX7_begin_38 ?_
      refine g_iload_n 2 C rfl dX7_begin_41 rfl ?_
      refine g_iconst C dX7_begin_42 ?_
      refine g_iast C 3 i (by decide) (fun _ => rfl) (by omega) (by omega) (by decide) dX7_begin_43 ?_
      refine g_aload_n 0 C rfl dX7_begin_44 rfl ?_
      refine gf_X7_23 C dX7_begin_45 ?_
      refine g_iload_n 2 C rfl dX7_begin_48 rfl ?_
      refine g_iconst C dX7_begin_49 ?_
      refine g_iast C 4 i (by decide) (fun _ => rfl) (by omega) (by omega) (by decide) dX7_begin_50 ?_
      refine g_iinc (lv' := [(0, .ref (q 0)), (1, .int (iZ (nn : Int))), (2, .int (iZ ((i : Int) + 1)))]) 2 [1, 2, 0] C rfl dX7_begin_51 (by decide) rfl ?_
      refine g_goto 7 C dX7_begin_54 (by decide) ?_
      refine ih (i + 1) (by omega) (by omega) _ ⟨fun c h0 h1 h2 h3 h4 => by rw [up_c h4, up_c h3, up_c h2, up_c h1]; exact hB.1 c h0 h1 h2 h3 h4, fun k hk => hB.2.1 k hk, hB.2.2.1, bgX_s (by omega) hB.2.2.2.1, bgC_s hB.2.2.2.2.1, bgC_s hB.2.2.2.2.2.1, bgC_s hB.2.2.2.2.2.2⟩
set_option maxHeartbeats 4000000 in
set_option maxRecDepth 20000 in
theorem c_X7_begin (g : Gx) {q : Nat → Nat} {σ : Nat → Nat → Int} {nn : Nat} (hn2 : 2 ≤ nn) (hn6 : nn ≤ 6) : MC g yX7_begin cX7_begin 3 (none) 0 0 (WM g q σ) [.ref (q 0), .int (iZ (nn : Int))] (fun u => WM g q u) (pV (fun u => u = bgS σ 0 0 1 2 3 4 nn)) := by
  refine MC_intro (own := RX7) rfl (by decide) (Nat.le_of_ble_eq_true rfl) (fun K C T => ?_)
  show GJ g K (WM g q σ) 0 [(0, .ref (q 0)), (1, .int (iZ (nn : Int)))] []
  refine g_aload_n 0 C rfl dX7_begin_0 rfl ?_
  refine g_iload_n 1 C rfl dX7_begin_1 rfl ?_
  refine pf_X7_7 C dX7_begin_2 ?_
  refine g_iconst C dX7_begin_5 ?_
  refine g_istore_n (lv' := [(0, .ref (q 0)), (1, .int (iZ (nn : Int))), (2, .int (iZ 0))]) [1, 2, 0] C dX7_begin_6 rfl (by decide) rfl ?_
  exact lp_X7_begin hn2 hn6 C T (nn + 2) 0 (by omega) (by omega) _ ⟨fun c h0 _ _ _ _ => up_c h0, fun k hk => up_k hk, up_s _ _ _ _, fun j => by rw [if_neg (by omega), up_c (by decide)], fun j => by rw [if_neg (by omega), up_c (by decide)], fun j => by rw [if_neg (by omega), up_c (by decide)], fun j => by rw [if_neg (by omega), up_c (by decide)]⟩
set_option maxHeartbeats 4000000 in
set_option maxRecDepth 20000 in
theorem c_X7_joints (g : Gx) {q : Nat → Nat} {σ : Nat → Nat → Int} {na : Int} (h_na : I32 na) : MC g yX7_joints cX7_joints 2 ((some .int)) 1 25 (WM g q σ) [.ref (q 0), .int (iZ na)] (fun u => WM g q u) (pI (fun z u => (¬ (2 ≤ na ∧ na ≤ 6) ∧ z = -1 ∧ u = σ) ∨ ((2 ≤ na ∧ na ≤ 6) ∧ z = 1 ∧ u = bgS σ 0 0 1 2 3 4 na.toNat))) := by
  refine MC_intro (own := RX7) rfl (by decide) (Nat.le_of_ble_eq_true rfl) (fun K C T => ?_)
  show GJ g K (WM g q σ) 0 [(0, .ref (q 0)), (1, .int (iZ na))] []
  refine g_iload_n 1 C rfl dX7_joints_0 rfl ?_
  refine g_i2l C dX7_joints_1 h_na ?_
  refine g_ldc2 2 C wk_X7_55 (by decide) dX7_joints_2 ?_
  refine g_ldc2 6 C wk_X7_57 (by decide) dX7_joints_5 ?_
  refine g_callSI C (c_X7_in g (v := na) (a := 2) (b := 6) (I64_32 h_na) (by unfold I64; omega) (by unfold I64; omega)) gs_X7_59 yd_X7_in ⟨by decide, by decide⟩ rfl (Nat.le_of_ble_eq_true rfl) dX7_joints_8 ?_
  rintro _ rfl
  refine g_bne 16 C dX7_joints_11 (by decide) (fun h1 => ?_) (fun h1 => ?_)
  · refine g_aload_n 0 C rfl dX7_joints_16 rfl ?_
    refine g_iload_n 1 C rfl dX7_joints_17 rfl ?_
    have hna : na = ((na.toNat : Nat) : Int) := by omega
    have hbg := c_X7_begin g (q := q) (σ := σ) (nn := na.toNat) (by omega) (by omega)
    rw [← hna] at hbg
    refine g_callV C hbg gv_X7_51 yd_X7_begin ⟨by decide, by decide⟩ 0 7 (WD_get (by decide)) rfl rfl (Nat.le_of_ble_eq_true rfl) dX7_joints_18 ?_
    rintro _ rfl
    refine g_iconst C dX7_joints_21 ?_
    refine g_iret (u := (bgS σ 0 0 1 2 3 4 na.toNat)) C T dX7_joints_22 ?_
    exact ⟨_, rfl, Or.inr ⟨by omega, rfl, rfl⟩⟩
  · refine g_iconst C dX7_joints_14 ?_
    refine g_iret (u := σ) C T dX7_joints_15 ?_
    exact ⟨_, rfl, Or.inl ⟨by omega, rfl, rfl⟩⟩
