theorem RBF.any {σ : Nat → Nat → Int} {nr r c : Nat} (h : RBF σ nr) (hr : r < nr) (hc : c < 5) : Bd (rwf σ r c) 40000 := by
  obtain ⟨h0, h1, h2, h3, h4⟩ := h r hr
  rcases (show c = 0 ∨ c = 1 ∨ c = 2 ∨ c = 3 ∨ c = 4 by omega) with rfl | rfl | rfl | rfl | rfl
  · exact h0.mono (by decide)
  · exact h1.mono (by decide)
  · exact h2
  · rw [h3]; exact Bd.z (by decide)
  · exact h4.mono (by decide)
def prr (f : Nat → Nat → Int) (p q x y : Nat) : Int := f p x * f q y - f p y * f q x
def Two (f : Nat → Nat → Int) (p q : Nat) : Prop := Ag2 f p q (f q 0) (-(f p 0)) ∨ Ag2 f p q (f q 1) (-(f p 1)) ∨ Ag2 f p q (f q 2) (-(f p 2))
def Three (f : Nat → Nat → Int) (p q r : Nat) : Prop := Ag3 f p q r (prr f q r 1 2) (prr f r p 1 2) (prr f p q 1 2) ∨ Ag3 f p q r (prr f q r 0 2) (prr f r p 0 2) (prr f p q 0 2) ∨ Ag3 f p q r (prr f q r 0 1) (prr f r p 0 1) (prr f p q 0 1)
def Four (f : Nat → Nat → Int) (p q r s : Nat) : Prop := Ag4 f p q r s (det3 f q r s 0 1 2) (-(det3 f p r s 0 1 2)) (det3 f p q s 0 1 2) (-(det3 f p q r 0 1 2))
theorem RBF.prr {σ : Nat → Nat → Int} {nr p q x y : Nat} (h : RBF σ nr) (hp : p < nr) (hq : q < nr) (hx : x < 5) (hy : y < 5) : Bd (prr (rwf σ) p q x y) 3200000000 := (((h.any hp hx).mul (h.any hq hy)).sub ((h.any hp hy).mul (h.any hq hx))).mono (by decide)
theorem sm2_bd {σ : Nat → Nat → Int} {nr b0 b1 : Nat} {s t A : Int} (h : RBF σ nr) (h0 : b0 < nr) (h1 : b1 < nr) (hs : Bd s A) (ht : Bd t A) (hA : A ≤ 4000000000) : ∀ c, c < 5 → -4611686018427387904 < sm2 (rwf σ) b0 b1 c s t ∧ sm2 (rwf σ) b0 b1 c s t < 4611686018427387904 := fun c hc =>
  (((h.any h0 hc).mul (hs.mono hA)).add ((h.any h1 hc).mul (ht.mono hA))).M (by decide)
theorem sm3_bd {σ : Nat → Nat → Int} {nr b0 b1 b2 : Nat} {s t u A : Int} (h : RBF σ nr) (h0 : b0 < nr) (h1 : b1 < nr) (h2 : b2 < nr) (hs : Bd s A) (ht : Bd t A) (hu : Bd u A) (hA : A ≤ 4000000000) : ∀ c, c < 5 → -4611686018427387904 < sm3 (rwf σ) b0 b1 b2 c s t u ∧ sm3 (rwf σ) b0 b1 b2 c s t u < 4611686018427387904 := fun c hc =>
  ((((h.any h0 hc).mul (hs.mono hA)).add ((h.any h1 hc).mul (ht.mono hA))).add ((h.any h2 hc).mul (hu.mono hA))).M (by decide)
theorem sm4_bd {σ : Nat → Nat → Int} {nr b0 b1 b2 b3 : Nat} {s t u v A : Int} (h : RBF σ nr) (h0 : b0 < nr) (h1 : b1 < nr) (h2 : b2 < nr) (h3 : b3 < nr) (hs : Bd s A) (ht : Bd t A) (hu : Bd u A) (hv : Bd v A) (hA : A ≤ 4000000000) : ∀ c, c < 5 → -4611686018427387904 < sm4 (rwf σ) b0 b1 b2 b3 c s t u v ∧ sm4 (rwf σ) b0 b1 b2 b3 c s t u v < 4611686018427387904 := fun c hc =>
  (((((h.any h0 hc).mul (hs.mono hA)).add ((h.any h1 hc).mul (ht.mono hA))).add ((h.any h2 hc).mul (hu.mono hA))).add ((h.any h3 hc).mul (hv.mono hA))).M (by decide)
set_option maxHeartbeats 4000000 in
set_option maxRecDepth 20000 in
theorem c_X7_areTwo (g : Gx) {q : Nat → Nat} {σ : Nat → Nat → Int} {nr b0 b1 : Nat} (hn16 : nr ≤ 16) (hR : RBF σ nr) (hb0 : σ 11 0 = (b0 : Int)) (hc0 : b0 < nr) (hb1 : σ 11 1 = (b1 : Int)) (hc1 : b1 < nr) : MC g yX7_areTwo cX7_areTwo 2 ((some .boolean)) 2 65 (WM g q σ) [.ref (q 0)] (fun _ : Unit => WM g q σ) (pI (fun z _ => z = bZ (Two (rwf σ) b0 b1))) := by
  refine MC_intro (own := RX7) rfl (by decide) (Nat.le_of_ble_eq_true rfl) (fun K C T => ?_)
  show GJ g K (WM g q σ) 0 [(0, .ref (q 0))] []
  refine g_iconst C dX7_areTwo_0 ?_
  refine g_istore_n (lv' := [(0, .ref (q 0)), (1, .int (iZ 0))]) [1, 0] C dX7_areTwo_1 rfl (by decide) rfl ?_
  refine g_iload_n 1 C rfl dX7_areTwo_2 rfl ?_
  refine g_iconst C dX7_areTwo_3 ?_
  refine g_icmp_ge 56 C (by unfold I32; omega) (by unfold I32; omega) dX7_areTwo_4 (by decide) (fun h1 => ?_) (fun h1 => ?_)
  · exact absurd h1 (by first | decide | omega)
  refine g_aload_n 0 C rfl dX7_areTwo_7 rfl ?_
  refine g_iconst C dX7_areTwo_8 ?_
  refine g_aload_n 0 C rfl dX7_areTwo_9 rfl ?_
  refine gf_X7_35 C dX7_areTwo_10 ?_
  refine g_iconst C dX7_areTwo_13 ?_
  refine g_aload_n 0 C rfl dX7_areTwo_14 rfl ?_
  refine gf_X7_45 C dX7_areTwo_15 ?_
  refine g_iconst C dX7_areTwo_18 ?_
  refine g_iald C 11 1 (by decide) (fun _ => rfl) (by omega) (by omega) (by decide) dX7_areTwo_19 ?_
  rw [show σ 11 1 = (b1 : Int) from hb1]
  refine g_imul C dX7_areTwo_20 ?_
  refine g_iload_n 1 C rfl dX7_areTwo_21 rfl ?_
  refine g_iadd C dX7_areTwo_22 ?_
  refine g_lald C 8 ((5 * b1) + 0) (by decide) (fun _ => rfl) (by omega) (by omega) (by decide) dX7_areTwo_23 ?_
  refine g_aload_n 0 C rfl dX7_areTwo_24 rfl ?_
  refine gf_X7_35 C dX7_areTwo_25 ?_
  refine g_iconst C dX7_areTwo_28 ?_
  refine g_aload_n 0 C rfl dX7_areTwo_29 rfl ?_
  refine gf_X7_45 C dX7_areTwo_30 ?_
  refine g_iconst C dX7_areTwo_33 ?_
  refine g_iald C 11 0 (by decide) (fun _ => rfl) (by omega) (by omega) (by decide) dX7_areTwo_34 ?_
  rw [show σ 11 0 = (b0 : Int) from hb0]
  refine g_imul C dX7_areTwo_35 ?_
  refine g_iload_n 1 C rfl dX7_areTwo_36 rfl ?_
  refine g_iadd C dX7_areTwo_37 ?_
  refine g_lald C 8 ((5 * b0) + 0) (by decide) (fun _ => rfl) (by omega) (by omega) (by decide) dX7_areTwo_38 ?_
  refine g_lneg C dX7_areTwo_39 ?_
  refine g_lconst 0 C dX7_areTwo_40 (by decide) ?_
  refine g_lconst 0 C dX7_areTwo_41 (by decide) ?_
  have q1 := hR.any (c := 0) hc1 (by decide)
  have q2 := (hR.any (c := 0) hc0 (by decide)).neg
  refine g_callI C (c_X7_isAgainst2 g (σ := σ) (b0 := b0) (b1 := b1) (s := rwf σ b1 0) (t := -(rwf σ b0 0)) (u := 0) (v := 0) hb0 (by omega) hb1 (by omega) (q1.M (by decide)) (q2.M (by decide)) (sm2_bd hR hc0 hc1 q1 q2 (by decide))) gv_X7_163 yd_X7_isAgainst ⟨by decide, by decide⟩ 0 7 (WD_get (by decide)) rfl rfl (Nat.le_of_ble_eq_true rfl) dX7_areTwo_42 ?_
  rintro _ _ rfl
  refine g_beq 50 C dX7_areTwo_45 (by decide) (fun h2 => ?_) (fun h2 => ?_)
  · refine g_iinc (lv' := [(0, .ref (q 0)), (1, .int (iZ 1))]) 1 [1, 0] C rfl dX7_areTwo_50 (by decide) rfl ?_
    refine g_goto 2 C dX7_areTwo_53 (by decide) ?_
    refine g_iload_n 1 C rfl dX7_areTwo_2 rfl ?_
    refine g_iconst C dX7_areTwo_3 ?_
    refine g_icmp_ge 56 C (by unfold I32; omega) (by unfold I32; omega) dX7_areTwo_4 (by decide) (fun h3 => ?_) (fun h3 => ?_)
    · exact absurd h3 (by first | decide | omega)
    refine g_aload_n 0 C rfl dX7_areTwo_7 rfl ?_
    refine g_iconst C dX7_areTwo_8 ?_
    refine g_aload_n 0 C rfl dX7_areTwo_9 rfl ?_
    refine gf_X7_35 C dX7_areTwo_10 ?_
    refine g_iconst C dX7_areTwo_13 ?_
    refine g_aload_n 0 C rfl dX7_areTwo_14 rfl ?_
    refine gf_X7_45 C dX7_areTwo_15 ?_
    refine g_iconst C dX7_areTwo_18 ?_
    refine g_iald C 11 1 (by decide) (fun _ => rfl) (by omega) (by omega) (by decide) dX7_areTwo_19 ?_
    rw [show σ 11 1 = (b1 : Int) from hb1]
    refine g_imul C dX7_areTwo_20 ?_
    refine g_iload_n 1 C rfl dX7_areTwo_21 rfl ?_
    refine g_iadd C dX7_areTwo_22 ?_
    refine g_lald C 8 ((5 * b1) + 1) (by decide) (fun _ => rfl) (by omega) (by omega) (by decide) dX7_areTwo_23 ?_
    refine g_aload_n 0 C rfl dX7_areTwo_24 rfl ?_
    refine gf_X7_35 C dX7_areTwo_25 ?_
    refine g_iconst C dX7_areTwo_28 ?_
    refine g_aload_n 0 C rfl dX7_areTwo_29 rfl ?_
    refine gf_X7_45 C dX7_areTwo_30 ?_
    refine g_iconst C dX7_areTwo_33 ?_
    refine g_iald C 11 0 (by decide) (fun _ => rfl) (by omega) (by omega) (by decide) dX7_areTwo_34 ?_
    rw [show σ 11 0 = (b0 : Int) from hb0]
    refine g_imul C dX7_areTwo_35 ?_
    refine g_iload_n 1 C rfl dX7_areTwo_36 rfl ?_
    refine g_iadd C dX7_areTwo_37 ?_
    refine g_lald C 8 ((5 * b0) + 1) (by decide) (fun _ => rfl) (by omega) (by omega) (by decide) dX7_areTwo_38 ?_
    refine g_lneg C dX7_areTwo_39 ?_
    refine g_lconst 0 C dX7_areTwo_40 (by decide) ?_
    refine g_lconst 0 C dX7_areTwo_41 (by decide) ?_
    have q1 := hR.any (c := 1) hc1 (by decide)
    have q2 := (hR.any (c := 1) hc0 (by decide)).neg
    refine g_callI C (c_X7_isAgainst2 g (σ := σ) (b0 := b0) (b1 := b1) (s := rwf σ b1 1) (t := -(rwf σ b0 1)) (u := 0) (v := 0) hb0 (by omega) hb1 (by omega) (q1.M (by decide)) (q2.M (by decide)) (sm2_bd hR hc0 hc1 q1 q2 (by decide))) gv_X7_163 yd_X7_isAgainst ⟨by decide, by decide⟩ 0 7 (WD_get (by decide)) rfl rfl (Nat.le_of_ble_eq_true rfl) dX7_areTwo_42 ?_
    rintro _ _ rfl
    refine g_beq 50 C dX7_areTwo_45 (by decide) (fun h4 => ?_) (fun h4 => ?_)
    · refine g_iinc (lv' := [(0, .ref (q 0)), (1, .int (iZ 2))]) 1 [1, 0] C rfl dX7_areTwo_50 (by decide) rfl ?_
      refine g_goto 2 C dX7_areTwo_53 (by decide) ?_
      refine g_iload_n 1 C rfl dX7_areTwo_2 rfl ?_
      refine g_iconst C dX7_areTwo_3 ?_
      refine g_icmp_ge 56 C (by unfold I32; omega) (by unfold I32; omega) dX7_areTwo_4 (by decide) (fun h5 => ?_) (fun h5 => ?_)
      · exact absurd h5 (by first | decide | omega)
      refine g_aload_n 0 C rfl dX7_areTwo_7 rfl ?_
      refine g_iconst C dX7_areTwo_8 ?_
      refine g_aload_n 0 C rfl dX7_areTwo_9 rfl ?_
      refine gf_X7_35 C dX7_areTwo_10 ?_
      refine g_iconst C dX7_areTwo_13 ?_
      refine g_aload_n 0 C rfl dX7_areTwo_14 rfl ?_
      refine gf_X7_45 C dX7_areTwo_15 ?_
      refine g_iconst C dX7_areTwo_18 ?_
      refine g_iald C 11 1 (by decide) (fun _ => rfl) (by omega) (by omega) (by decide) dX7_areTwo_19 ?_
      rw [show σ 11 1 = (b1 : Int) from hb1]
      refine g_imul C dX7_areTwo_20 ?_
      refine g_iload_n 1 C rfl dX7_areTwo_21 rfl ?_
      refine g_iadd C dX7_areTwo_22 ?_
      refine g_lald C 8 ((5 * b1) + 2) (by decide) (fun _ => rfl) (by omega) (by omega) (by decide) dX7_areTwo_23 ?_
      refine g_aload_n 0 C rfl dX7_areTwo_24 rfl ?_
      refine gf_X7_35 C dX7_areTwo_25 ?_
      refine g_iconst C dX7_areTwo_28 ?_
      refine g_aload_n 0 C rfl dX7_areTwo_29 rfl ?_
      refine gf_X7_45 C dX7_areTwo_30 ?_
      refine g_iconst C dX7_areTwo_33 ?_
      refine g_iald C 11 0 (by decide) (fun _ => rfl) (by omega) (by omega) (by decide) dX7_areTwo_34 ?_
      rw [show σ 11 0 = (b0 : Int) from hb0]
      refine g_imul C dX7_areTwo_35 ?_
      refine g_iload_n 1 C rfl dX7_areTwo_36 rfl ?_
      refine g_iadd C dX7_areTwo_37 ?_
      refine g_lald C 8 ((5 * b0) + 2) (by decide) (fun _ => rfl) (by omega) (by omega) (by decide) dX7_areTwo_38 ?_
      refine g_lneg C dX7_areTwo_39 ?_
      refine g_lconst 0 C dX7_areTwo_40 (by decide) ?_
      refine g_lconst 0 C dX7_areTwo_41 (by decide) ?_
      have q1 := hR.any (c := 2) hc1 (by decide)
      have q2 := (hR.any (c := 2) hc0 (by decide)).neg
      refine g_callI C (c_X7_isAgainst2 g (σ := σ) (b0 := b0) (b1 := b1) (s := rwf σ b1 2) (t := -(rwf σ b0 2)) (u := 0) (v := 0) hb0 (by omega) hb1 (by omega) (q1.M (by decide)) (q2.M (by decide)) (sm2_bd hR hc0 hc1 q1 q2 (by decide))) gv_X7_163 yd_X7_isAgainst ⟨by decide, by decide⟩ 0 7 (WD_get (by decide)) rfl rfl (Nat.le_of_ble_eq_true rfl) dX7_areTwo_42 ?_
      rintro _ _ rfl
      refine g_beq 50 C dX7_areTwo_45 (by decide) (fun h6 => ?_) (fun h6 => ?_)
      · refine g_iinc (lv' := [(0, .ref (q 0)), (1, .int (iZ 3))]) 1 [1, 0] C rfl dX7_areTwo_50 (by decide) rfl ?_
        refine g_goto 2 C dX7_areTwo_53 (by decide) ?_
        refine g_iload_n 1 C rfl dX7_areTwo_2 rfl ?_
        refine g_iconst C dX7_areTwo_3 ?_
        refine g_icmp_ge 56 C (by unfold I32; omega) (by unfold I32; omega) dX7_areTwo_4 (by decide) (fun h7 => ?_) (fun h7 => ?_)
        · refine g_iconst C dX7_areTwo_56 ?_
          refine g_zret (u := ()) C T dX7_areTwo_57 (by omega) ?_
          exact ⟨_, rfl, (bZ_f (fun h => h.elim h2 (fun h => h.elim h4 h6))).symm⟩
        · exact absurd h7 (by first | decide | omega)
      · refine g_iconst C dX7_areTwo_48 ?_
        refine g_zret (u := ()) C T dX7_areTwo_49 (by omega) ?_
        exact ⟨_, rfl, (bZ_t (Or.inr (Or.inr h6))).symm⟩
    · refine g_iconst C dX7_areTwo_48 ?_
      refine g_zret (u := ()) C T dX7_areTwo_49 (by omega) ?_
      exact ⟨_, rfl, (bZ_t (Or.inr (Or.inl h4))).symm⟩
  · refine g_iconst C dX7_areTwo_48 ?_
    refine g_zret (u := ()) C T dX7_areTwo_49 (by omega) ?_
    exact ⟨_, rfl, (bZ_t (Or.inl h2)).symm⟩
set_option maxHeartbeats 4000000 in
set_option maxRecDepth 20000 in
theorem c_X7_areThree (g : Gx) {q : Nat → Nat} {σ : Nat → Nat → Int} {nr b0 b1 b2 : Nat} (hn16 : nr ≤ 16) (hR : RBF σ nr) (hb0 : σ 11 0 = (b0 : Int)) (hc0 : b0 < nr) (hb1 : σ 11 1 = (b1 : Int)) (hc1 : b1 < nr) (hb2 : σ 11 2 = (b2 : Int)) (hc2 : b2 < nr) : MC g yX7_areThree cX7_areThree 4 ((some .boolean)) 2 65 (WM g q σ) [.ref (q 0)] (fun _ : Unit => WM g q σ) (pI (fun z _ => z = bZ (Three (rwf σ) b0 b1 b2))) := by
  refine MC_intro (own := RX7) rfl (by decide) (Nat.le_of_ble_eq_true rfl) (fun K C T => ?_)
  show GJ g K (WM g q σ) 0 [(0, .ref (q 0))] []
  refine g_iconst C dX7_areThree_0 ?_
  refine g_istore_n (lv' := [(0, .ref (q 0)), (1, .int (iZ 0))]) [1, 0] C dX7_areThree_1 rfl (by decide) rfl ?_
  refine g_iload_n 1 C rfl dX7_areThree_2 rfl ?_
  refine g_iconst C dX7_areThree_3 ?_
  refine g_icmp_ge 99 C (by unfold I32; omega) (by unfold I32; omega) dX7_areThree_4 (by decide) (fun h1 => ?_) (fun h1 => ?_)
  · exact absurd h1 (by first | decide | omega)
  refine g_iload_n 1 C rfl dX7_areThree_7 rfl ?_
  refine g_if_ne 15 C (by unfold I32; omega) dX7_areThree_8 (by decide) (fun h2 => ?_) (fun h2 => ?_)
  · exact absurd h2 (by first | decide | omega)
  refine g_iconst C dX7_areThree_11 ?_
  refine g_goto 16 C dX7_areThree_12 (by decide) ?_
  refine g_istore_n (lv' := [(0, .ref (q 0)), (1, .int (iZ 0)), (2, .int (iZ 1))]) [1, 2, 0] C dX7_areThree_16 rfl (by decide) rfl ?_
  refine g_iload_n 1 C rfl dX7_areThree_17 rfl ?_
  refine g_iconst C dX7_areThree_18 ?_
  refine g_icmp_ne 26 C (by unfold I32; omega) (by unfold I32; omega) dX7_areThree_19 (by decide) (fun h3 => ?_) (fun h3 => ?_)
  · refine g_iconst C dX7_areThree_26 ?_
    refine g_istore_n (lv' := [(0, .ref (q 0)), (1, .int (iZ 0)), (2, .int (iZ 1)), (3, .int (iZ 2))]) [1, 2, 3, 0] C dX7_areThree_27 rfl (by decide) rfl ?_
    refine g_aload_n 0 C rfl dX7_areThree_28 rfl ?_
    refine g_iconst C dX7_areThree_29 ?_
    refine g_aload_n 0 C rfl dX7_areThree_30 rfl ?_
    refine g_aload_n 0 C rfl dX7_areThree_31 rfl ?_
    refine gf_X7_45 C dX7_areThree_32 ?_
    refine g_iconst C dX7_areThree_35 ?_
    refine g_iald C 11 1 (by decide) (fun _ => rfl) (by omega) (by omega) (by decide) dX7_areThree_36 ?_
    rw [show σ 11 1 = (b1 : Int) from hb1]
    refine g_aload_n 0 C rfl dX7_areThree_37 rfl ?_
    refine gf_X7_45 C dX7_areThree_38 ?_
    refine g_iconst C dX7_areThree_41 ?_
    refine g_iald C 11 2 (by decide) (fun _ => rfl) (by omega) (by omega) (by decide) dX7_areThree_42 ?_
    rw [show σ 11 2 = (b2 : Int) from hb2]
    refine g_iload_n 2 C rfl dX7_areThree_43 rfl ?_
    refine g_iload_n 3 C rfl dX7_areThree_44 rfl ?_
    refine g_callL C (c_X7_pair g (σ := σ) (p1 := b1) (p2 := b2) (x1 := 1) (x2 := 2) (by omega) (by omega) (by decide) (by decide)) gv_X7_167 yd_X7_pair ⟨by decide, by decide⟩ 0 7 (WD_get (by decide)) rfl rfl (Nat.le_of_ble_eq_true rfl) dX7_areThree_45 ?_
    rintro _ _ rfl
    change GJ g K _ _ _ (.long (lZ (prr (rwf σ) b1 b2 1 2)) :: _)
    refine g_aload_n 0 C rfl dX7_areThree_48 rfl ?_
    refine g_aload_n 0 C rfl dX7_areThree_49 rfl ?_
    refine gf_X7_45 C dX7_areThree_50 ?_
    refine g_iconst C dX7_areThree_53 ?_
    refine g_iald C 11 2 (by decide) (fun _ => rfl) (by omega) (by omega) (by decide) dX7_areThree_54 ?_
    rw [show σ 11 2 = (b2 : Int) from hb2]
    refine g_aload_n 0 C rfl dX7_areThree_55 rfl ?_
    refine gf_X7_45 C dX7_areThree_56 ?_
    refine g_iconst C dX7_areThree_59 ?_
    refine g_iald C 11 0 (by decide) (fun _ => rfl) (by omega) (by omega) (by decide) dX7_areThree_60 ?_
    rw [show σ 11 0 = (b0 : Int) from hb0]
    refine g_iload_n 2 C rfl dX7_areThree_61 rfl ?_
    refine g_iload_n 3 C rfl dX7_areThree_62 rfl ?_
    refine g_callL C (c_X7_pair g (σ := σ) (p1 := b2) (p2 := b0) (x1 := 1) (x2 := 2) (by omega) (by omega) (by decide) (by decide)) gv_X7_167 yd_X7_pair ⟨by decide, by decide⟩ 0 7 (WD_get (by decide)) rfl rfl (Nat.le_of_ble_eq_true rfl) dX7_areThree_63 ?_
    rintro _ _ rfl
    change GJ g K _ _ _ (.long (lZ (prr (rwf σ) b2 b0 1 2)) :: _)
    refine g_aload_n 0 C rfl dX7_areThree_66 rfl ?_
    refine g_aload_n 0 C rfl dX7_areThree_67 rfl ?_
    refine gf_X7_45 C dX7_areThree_68 ?_
    refine g_iconst C dX7_areThree_71 ?_
    refine g_iald C 11 0 (by decide) (fun _ => rfl) (by omega) (by omega) (by decide) dX7_areThree_72 ?_
    rw [show σ 11 0 = (b0 : Int) from hb0]
    refine g_aload_n 0 C rfl dX7_areThree_73 rfl ?_
    refine gf_X7_45 C dX7_areThree_74 ?_
    refine g_iconst C dX7_areThree_77 ?_
    refine g_iald C 11 1 (by decide) (fun _ => rfl) (by omega) (by omega) (by decide) dX7_areThree_78 ?_
    rw [show σ 11 1 = (b1 : Int) from hb1]
    refine g_iload_n 2 C rfl dX7_areThree_79 rfl ?_
    refine g_iload_n 3 C rfl dX7_areThree_80 rfl ?_
    refine g_callL C (c_X7_pair g (σ := σ) (p1 := b0) (p2 := b1) (x1 := 1) (x2 := 2) (by omega) (by omega) (by decide) (by decide)) gv_X7_167 yd_X7_pair ⟨by decide, by decide⟩ 0 7 (WD_get (by decide)) rfl rfl (Nat.le_of_ble_eq_true rfl) dX7_areThree_81 ?_
    rintro _ _ rfl
    change GJ g K _ _ _ (.long (lZ (prr (rwf σ) b0 b1 1 2)) :: _)
    refine g_lconst 0 C dX7_areThree_84 (by decide) ?_
    have q1 := hR.prr (x := 1) (y := 2) hc1 hc2 (by decide) (by decide)
    have q2 := hR.prr (x := 1) (y := 2) hc2 hc0 (by decide) (by decide)
    have q3 := hR.prr (x := 1) (y := 2) hc0 hc1 (by decide) (by decide)
    refine g_callI C (c_X7_isAgainst3 g (σ := σ) (b0 := b0) (b1 := b1) (b2 := b2) (s := prr (rwf σ) b1 b2 1 2) (t := prr (rwf σ) b2 b0 1 2) (u := prr (rwf σ) b0 b1 1 2) (v := 0) hb0 (by omega) hb1 (by omega) hb2 (by omega) (q1.M (by decide)) (q2.M (by decide)) (q3.M (by decide)) (sm3_bd hR hc0 hc1 hc2 q1 q2 q3 (by decide))) gv_X7_163 yd_X7_isAgainst ⟨by decide, by decide⟩ 0 7 (WD_get (by decide)) rfl rfl (Nat.le_of_ble_eq_true rfl) dX7_areThree_85 ?_
    rintro _ _ rfl
    refine g_beq 93 C dX7_areThree_88 (by decide) (fun h4 => ?_) (fun h4 => ?_)
    · refine g_iinc (lv' := [(0, .ref (q 0)), (1, .int (iZ 1)), (2, .int (iZ 1)), (3, .int (iZ 2))]) 1 [1, 0, 2, 3] C rfl dX7_areThree_93 (by decide) rfl ?_
      refine g_goto 2 C dX7_areThree_96 (by decide) ?_
      refine g_iload_n 1 C rfl dX7_areThree_2 rfl ?_
      refine g_iconst C dX7_areThree_3 ?_
      refine g_icmp_ge 99 C (by unfold I32; omega) (by unfold I32; omega) dX7_areThree_4 (by decide) (fun h5 => ?_) (fun h5 => ?_)
      · exact absurd h5 (by first | decide | omega)
      refine g_iload_n 1 C rfl dX7_areThree_7 rfl ?_
      refine g_if_ne 15 C (by unfold I32; omega) dX7_areThree_8 (by decide) (fun h6 => ?_) (fun h6 => ?_)
      · refine g_iconst C dX7_areThree_15 ?_
        refine g_istore_n (lv' := [(0, .ref (q 0)), (1, .int (iZ 1)), (2, .int (iZ 0)), (3, .int (iZ 2))]) [1, 2, 0, 3] C dX7_areThree_16 rfl (by decide) rfl ?_
        refine g_iload_n 1 C rfl dX7_areThree_17 rfl ?_
        refine g_iconst C dX7_areThree_18 ?_
        refine g_icmp_ne 26 C (by unfold I32; omega) (by unfold I32; omega) dX7_areThree_19 (by decide) (fun h7 => ?_) (fun h7 => ?_)
        · refine g_iconst C dX7_areThree_26 ?_
          refine g_istore_n (lv' := [(0, .ref (q 0)), (1, .int (iZ 1)), (2, .int (iZ 0)), (3, .int (iZ 2))]) [1, 2, 3, 0] C dX7_areThree_27 rfl (by decide) rfl ?_
          refine g_aload_n 0 C rfl dX7_areThree_28 rfl ?_
          refine g_iconst C dX7_areThree_29 ?_
          refine g_aload_n 0 C rfl dX7_areThree_30 rfl ?_
          refine g_aload_n 0 C rfl dX7_areThree_31 rfl ?_
          refine gf_X7_45 C dX7_areThree_32 ?_
          refine g_iconst C dX7_areThree_35 ?_
          refine g_iald C 11 1 (by decide) (fun _ => rfl) (by omega) (by omega) (by decide) dX7_areThree_36 ?_
          rw [show σ 11 1 = (b1 : Int) from hb1]
          refine g_aload_n 0 C rfl dX7_areThree_37 rfl ?_
          refine gf_X7_45 C dX7_areThree_38 ?_
          refine g_iconst C dX7_areThree_41 ?_
          refine g_iald C 11 2 (by decide) (fun _ => rfl) (by omega) (by omega) (by decide) dX7_areThree_42 ?_
          rw [show σ 11 2 = (b2 : Int) from hb2]
          refine g_iload_n 2 C rfl dX7_areThree_43 rfl ?_
          refine g_iload_n 3 C rfl dX7_areThree_44 rfl ?_
          refine g_callL C (c_X7_pair g (σ := σ) (p1 := b1) (p2 := b2) (x1 := 0) (x2 := 2) (by omega) (by omega) (by decide) (by decide)) gv_X7_167 yd_X7_pair ⟨by decide, by decide⟩ 0 7 (WD_get (by decide)) rfl rfl (Nat.le_of_ble_eq_true rfl) dX7_areThree_45 ?_
          rintro _ _ rfl
          change GJ g K _ _ _ (.long (lZ (prr (rwf σ) b1 b2 0 2)) :: _)
          refine g_aload_n 0 C rfl dX7_areThree_48 rfl ?_
          refine g_aload_n 0 C rfl dX7_areThree_49 rfl ?_
          refine gf_X7_45 C dX7_areThree_50 ?_
          refine g_iconst C dX7_areThree_53 ?_
          refine g_iald C 11 2 (by decide) (fun _ => rfl) (by omega) (by omega) (by decide) dX7_areThree_54 ?_
          rw [show σ 11 2 = (b2 : Int) from hb2]
          refine g_aload_n 0 C rfl dX7_areThree_55 rfl ?_
          refine gf_X7_45 C dX7_areThree_56 ?_
          refine g_iconst C dX7_areThree_59 ?_
          refine g_iald C 11 0 (by decide) (fun _ => rfl) (by omega) (by omega) (by decide) dX7_areThree_60 ?_
          rw [show σ 11 0 = (b0 : Int) from hb0]
          refine g_iload_n 2 C rfl dX7_areThree_61 rfl ?_
          refine g_iload_n 3 C rfl dX7_areThree_62 rfl ?_
          refine g_callL C (c_X7_pair g (σ := σ) (p1 := b2) (p2 := b0) (x1 := 0) (x2 := 2) (by omega) (by omega) (by decide) (by decide)) gv_X7_167 yd_X7_pair ⟨by decide, by decide⟩ 0 7 (WD_get (by decide)) rfl rfl (Nat.le_of_ble_eq_true rfl) dX7_areThree_63 ?_
          rintro _ _ rfl
          change GJ g K _ _ _ (.long (lZ (prr (rwf σ) b2 b0 0 2)) :: _)
          refine g_aload_n 0 C rfl dX7_areThree_66 rfl ?_
          refine g_aload_n 0 C rfl dX7_areThree_67 rfl ?_
          refine gf_X7_45 C dX7_areThree_68 ?_
          refine g_iconst C dX7_areThree_71 ?_
          refine g_iald C 11 0 (by decide) (fun _ => rfl) (by omega) (by omega) (by decide) dX7_areThree_72 ?_
          rw [show σ 11 0 = (b0 : Int) from hb0]
          refine g_aload_n 0 C rfl dX7_areThree_73 rfl ?_
          refine gf_X7_45 C dX7_areThree_74 ?_
          refine g_iconst C dX7_areThree_77 ?_
          refine g_iald C 11 1 (by decide) (fun _ => rfl) (by omega) (by omega) (by decide) dX7_areThree_78 ?_
          rw [show σ 11 1 = (b1 : Int) from hb1]
          refine g_iload_n 2 C rfl dX7_areThree_79 rfl ?_
          refine g_iload_n 3 C rfl dX7_areThree_80 rfl ?_
          refine g_callL C (c_X7_pair g (σ := σ) (p1 := b0) (p2 := b1) (x1 := 0) (x2 := 2) (by omega) (by omega) (by decide) (by decide)) gv_X7_167 yd_X7_pair ⟨by decide, by decide⟩ 0 7 (WD_get (by decide)) rfl rfl (Nat.le_of_ble_eq_true rfl) dX7_areThree_81 ?_
          rintro _ _ rfl
          change GJ g K _ _ _ (.long (lZ (prr (rwf σ) b0 b1 0 2)) :: _)
          refine g_lconst 0 C dX7_areThree_84 (by decide) ?_
          have q1 := hR.prr (x := 0) (y := 2) hc1 hc2 (by decide) (by decide)
          have q2 := hR.prr (x := 0) (y := 2) hc2 hc0 (by decide) (by decide)
          have q3 := hR.prr (x := 0) (y := 2) hc0 hc1 (by decide) (by decide)
          refine g_callI C (c_X7_isAgainst3 g (σ := σ) (b0 := b0) (b1 := b1) (b2 := b2) (s := prr (rwf σ) b1 b2 0 2) (t := prr (rwf σ) b2 b0 0 2) (u := prr (rwf σ) b0 b1 0 2) (v := 0) hb0 (by omega) hb1 (by omega) hb2 (by omega) (q1.M (by decide)) (q2.M (by decide)) (q3.M (by decide)) (sm3_bd hR hc0 hc1 hc2 q1 q2 q3 (by decide))) gv_X7_163 yd_X7_isAgainst ⟨by decide, by decide⟩ 0 7 (WD_get (by decide)) rfl rfl (Nat.le_of_ble_eq_true rfl) dX7_areThree_85 ?_
          rintro _ _ rfl
          refine g_beq 93 C dX7_areThree_88 (by decide) (fun h8 => ?_) (fun h8 => ?_)
          · refine g_iinc (lv' := [(0, .ref (q 0)), (1, .int (iZ 2)), (2, .int (iZ 0)), (3, .int (iZ 2))]) 1 [1, 0, 2, 3] C rfl dX7_areThree_93 (by decide) rfl ?_
            refine g_goto 2 C dX7_areThree_96 (by decide) ?_
            refine g_iload_n 1 C rfl dX7_areThree_2 rfl ?_
            refine g_iconst C dX7_areThree_3 ?_
            refine g_icmp_ge 99 C (by unfold I32; omega) (by unfold I32; omega) dX7_areThree_4 (by decide) (fun h9 => ?_) (fun h9 => ?_)
            · exact absurd h9 (by first | decide | omega)
            refine g_iload_n 1 C rfl dX7_areThree_7 rfl ?_
            refine g_if_ne 15 C (by unfold I32; omega) dX7_areThree_8 (by decide) (fun h10 => ?_) (fun h10 => ?_)
            · refine g_iconst C dX7_areThree_15 ?_
              refine g_istore_n (lv' := [(0, .ref (q 0)), (1, .int (iZ 2)), (2, .int (iZ 0)), (3, .int (iZ 2))]) [1, 2, 0, 3] C dX7_areThree_16 rfl (by decide) rfl ?_
              refine g_iload_n 1 C rfl dX7_areThree_17 rfl ?_
              refine g_iconst C dX7_areThree_18 ?_
              refine g_icmp_ne 26 C (by unfold I32; omega) (by unfold I32; omega) dX7_areThree_19 (by decide) (fun h11 => ?_) (fun h11 => ?_)
              · exact absurd h11 (by first | decide | omega)
              refine g_iconst C dX7_areThree_22 ?_
              refine g_goto 27 C dX7_areThree_23 (by decide) ?_
              refine g_istore_n (lv' := [(0, .ref (q 0)), (1, .int (iZ 2)), (2, .int (iZ 0)), (3, .int (iZ 1))]) [1, 2, 3, 0] C dX7_areThree_27 rfl (by decide) rfl ?_
              refine g_aload_n 0 C rfl dX7_areThree_28 rfl ?_
              refine g_iconst C dX7_areThree_29 ?_
              refine g_aload_n 0 C rfl dX7_areThree_30 rfl ?_
              refine g_aload_n 0 C rfl dX7_areThree_31 rfl ?_
              refine gf_X7_45 C dX7_areThree_32 ?_
              refine g_iconst C dX7_areThree_35 ?_
              refine g_iald C 11 1 (by decide) (fun _ => rfl) (by omega) (by omega) (by decide) dX7_areThree_36 ?_
              rw [show σ 11 1 = (b1 : Int) from hb1]
              refine g_aload_n 0 C rfl dX7_areThree_37 rfl ?_
              refine gf_X7_45 C dX7_areThree_38 ?_
              refine g_iconst C dX7_areThree_41 ?_
              refine g_iald C 11 2 (by decide) (fun _ => rfl) (by omega) (by omega) (by decide) dX7_areThree_42 ?_
              rw [show σ 11 2 = (b2 : Int) from hb2]
              refine g_iload_n 2 C rfl dX7_areThree_43 rfl ?_
              refine g_iload_n 3 C rfl dX7_areThree_44 rfl ?_
              refine g_callL C (c_X7_pair g (σ := σ) (p1 := b1) (p2 := b2) (x1 := 0) (x2 := 1) (by omega) (by omega) (by decide) (by decide)) gv_X7_167 yd_X7_pair ⟨by decide, by decide⟩ 0 7 (WD_get (by decide)) rfl rfl (Nat.le_of_ble_eq_true rfl) dX7_areThree_45 ?_
              rintro _ _ rfl
              change GJ g K _ _ _ (.long (lZ (prr (rwf σ) b1 b2 0 1)) :: _)
              refine g_aload_n 0 C rfl dX7_areThree_48 rfl ?_
              refine g_aload_n 0 C rfl dX7_areThree_49 rfl ?_
              refine gf_X7_45 C dX7_areThree_50 ?_
              refine g_iconst C dX7_areThree_53 ?_
              refine g_iald C 11 2 (by decide) (fun _ => rfl) (by omega) (by omega) (by decide) dX7_areThree_54 ?_
              rw [show σ 11 2 = (b2 : Int) from hb2]
              refine g_aload_n 0 C rfl dX7_areThree_55 rfl ?_
              refine gf_X7_45 C dX7_areThree_56 ?_
              refine g_iconst C dX7_areThree_59 ?_
              refine g_iald C 11 0 (by decide) (fun _ => rfl) (by omega) (by omega) (by decide) dX7_areThree_60 ?_
              rw [show σ 11 0 = (b0 : Int) from hb0]
              refine g_iload_n 2 C rfl dX7_areThree_61 rfl ?_
              refine g_iload_n 3 C rfl dX7_areThree_62 rfl ?_
              refine g_callL C (c_X7_pair g (σ := σ) (p1 := b2) (p2 := b0) (x1 := 0) (x2 := 1) (by omega) (by omega) (by decide) (by decide)) gv_X7_167 yd_X7_pair ⟨by decide, by decide⟩ 0 7 (WD_get (by decide)) rfl rfl (Nat.le_of_ble_eq_true rfl) dX7_areThree_63 ?_
              rintro _ _ rfl
              change GJ g K _ _ _ (.long (lZ (prr (rwf σ) b2 b0 0 1)) :: _)
              refine g_aload_n 0 C rfl dX7_areThree_66 rfl ?_
              refine g_aload_n 0 C rfl dX7_areThree_67 rfl ?_
              refine gf_X7_45 C dX7_areThree_68 ?_
              refine g_iconst C dX7_areThree_71 ?_
              refine g_iald C 11 0 (by decide) (fun _ => rfl) (by omega) (by omega) (by decide) dX7_areThree_72 ?_
              rw [show σ 11 0 = (b0 : Int) from hb0]
              refine g_aload_n 0 C rfl dX7_areThree_73 rfl ?_
              refine gf_X7_45 C dX7_areThree_74 ?_
              refine g_iconst C dX7_areThree_77 ?_
              refine g_iald C 11 1 (by decide) (fun _ => rfl) (by omega) (by omega) (by decide) dX7_areThree_78 ?_
              rw [show σ 11 1 = (b1 : Int) from hb1]
              refine g_iload_n 2 C rfl dX7_areThree_79 rfl ?_
              refine g_iload_n 3 C rfl dX7_areThree_80 rfl ?_
              refine g_callL C (c_X7_pair g (σ := σ) (p1 := b0) (p2 := b1) (x1 := 0) (x2 := 1) (by omega) (by omega) (by decide) (by decide)) gv_X7_167 yd_X7_pair ⟨by decide, by decide⟩ 0 7 (WD_get (by decide)) rfl rfl (Nat.le_of_ble_eq_true rfl) dX7_areThree_81 ?_
              rintro _ _ rfl
              change GJ g K _ _ _ (.long (lZ (prr (rwf σ) b0 b1 0 1)) :: _)
              refine g_lconst 0 C dX7_areThree_84 (by decide) ?_
              have q1 := hR.prr (x := 0) (y := 1) hc1 hc2 (by decide) (by decide)
              have q2 := hR.prr (x := 0) (y := 1) hc2 hc0 (by decide) (by decide)
              have q3 := hR.prr (x := 0) (y := 1) hc0 hc1 (by decide) (by decide)
              refine g_callI C (c_X7_isAgainst3 g (σ := σ) (b0 := b0) (b1 := b1) (b2 := b2) (s := prr (rwf σ) b1 b2 0 1) (t := prr (rwf σ) b2 b0 0 1) (u := prr (rwf σ) b0 b1 0 1) (v := 0) hb0 (by omega) hb1 (by omega) hb2 (by omega) (q1.M (by decide)) (q2.M (by decide)) (q3.M (by decide)) (sm3_bd hR hc0 hc1 hc2 q1 q2 q3 (by decide))) gv_X7_163 yd_X7_isAgainst ⟨by decide, by decide⟩ 0 7 (WD_get (by decide)) rfl rfl (Nat.le_of_ble_eq_true rfl) dX7_areThree_85 ?_
              rintro _ _ rfl
              refine g_beq 93 C dX7_areThree_88 (by decide) (fun h12 => ?_) (fun h12 => ?_)
              · refine g_iinc (lv' := [(0, .ref (q 0)), (1, .int (iZ 3)), (2, .int (iZ 0)), (3, .int (iZ 1))]) 1 [1, 0, 2, 3] C rfl dX7_areThree_93 (by decide) rfl ?_
                refine g_goto 2 C dX7_areThree_96 (by decide) ?_
                refine g_iload_n 1 C rfl dX7_areThree_2 rfl ?_
                refine g_iconst C dX7_areThree_3 ?_
                refine g_icmp_ge 99 C (by unfold I32; omega) (by unfold I32; omega) dX7_areThree_4 (by decide) (fun h13 => ?_) (fun h13 => ?_)
                · refine g_iconst C dX7_areThree_99 ?_
                  refine g_zret (u := ()) C T dX7_areThree_100 (by omega) ?_
                  exact ⟨_, rfl, (bZ_f (fun h => h.elim h4 (fun h => h.elim h8 h12))).symm⟩
                · exact absurd h13 (by first | decide | omega)
              · refine g_iconst C dX7_areThree_91 ?_
                refine g_zret (u := ()) C T dX7_areThree_92 (by omega) ?_
                exact ⟨_, rfl, (bZ_t (Or.inr (Or.inr h12))).symm⟩
            · exact absurd h10 (by first | decide | omega)
          · refine g_iconst C dX7_areThree_91 ?_
            refine g_zret (u := ()) C T dX7_areThree_92 (by omega) ?_
            exact ⟨_, rfl, (bZ_t (Or.inr (Or.inl h8))).symm⟩
        · exact absurd h7 (by first | decide | omega)
      · exact absurd h6 (by first | decide | omega)
    · refine g_iconst C dX7_areThree_91 ?_
      refine g_zret (u := ()) C T dX7_areThree_92 (by omega) ?_
      exact ⟨_, rfl, (bZ_t (Or.inl h4)).symm⟩
  · exact absurd h3 (by first | decide | omega)
set_option maxHeartbeats 4000000 in
set_option maxRecDepth 20000 in
theorem c_X7_areFour (g : Gx) {q : Nat → Nat} {σ : Nat → Nat → Int} {nr b0 b1 b2 b3 : Nat} (hn16 : nr ≤ 16) (hR : RBF σ nr) (hb0 : σ 11 0 = (b0 : Int)) (hc0 : b0 < nr) (hb1 : σ 11 1 = (b1 : Int)) (hc1 : b1 < nr) (hb2 : σ 11 2 = (b2 : Int)) (hc2 : b2 < nr) (hb3 : σ 11 3 = (b3 : Int)) (hc3 : b3 < nr) : MC g yX7_areFour cX7_areFour 9 ((some .boolean)) 2 65 (WM g q σ) [.ref (q 0)] (fun _ : Unit => WM g q σ) (pI (fun z _ => z = bZ (Four (rwf σ) b0 b1 b2 b3))) := by
  refine MC_intro (own := RX7) rfl (by decide) (Nat.le_of_ble_eq_true rfl) (fun K C T => ?_)
  show GJ g K (WM g q σ) 0 [(0, .ref (q 0))] []
  refine g_aload_n 0 C rfl dX7_areFour_0 rfl ?_
  refine g_aload_n 0 C rfl dX7_areFour_1 rfl ?_
  refine gf_X7_45 C dX7_areFour_2 ?_
  refine g_iconst C dX7_areFour_5 ?_
  refine g_iald C 11 1 (by decide) (fun _ => rfl) (by omega) (by omega) (by decide) dX7_areFour_6 ?_
  rw [show σ 11 1 = (b1 : Int) from hb1]
  refine g_aload_n 0 C rfl dX7_areFour_7 rfl ?_
  refine gf_X7_45 C dX7_areFour_8 ?_
  refine g_iconst C dX7_areFour_11 ?_
  refine g_iald C 11 2 (by decide) (fun _ => rfl) (by omega) (by omega) (by decide) dX7_areFour_12 ?_
  rw [show σ 11 2 = (b2 : Int) from hb2]
  refine g_aload_n 0 C rfl dX7_areFour_13 rfl ?_
  refine gf_X7_45 C dX7_areFour_14 ?_
  refine g_iconst C dX7_areFour_17 ?_
  refine g_iald C 11 3 (by decide) (fun _ => rfl) (by omega) (by omega) (by decide) dX7_areFour_18 ?_
  rw [show σ 11 3 = (b3 : Int) from hb3]
  refine g_iconst C dX7_areFour_19 ?_
  refine g_iconst C dX7_areFour_20 ?_
  refine g_iconst C dX7_areFour_21 ?_
  refine g_callL C (c_X7_three g (σ := σ) (p1 := b1) (p2 := b2) (p3 := b3) (x1 := 0) (x2 := 1) (x3 := 2) (by omega) (by omega) (by omega) (by decide) (by decide) (by decide)) gv_X7_95 yd_X7_three ⟨by decide, by decide⟩ 0 7 (WD_get (by decide)) rfl rfl (Nat.le_of_ble_eq_true rfl) dX7_areFour_22 ?_
  rintro _ _ rfl
  refine g_lname (fun w1 ew1 => ?_)
  refine g_lstore_n (lv' := [(0, .ref (q 0)), (1, .long (lZ w1))]) [1, 0] C dX7_areFour_25 rfl (by decide) rfl ?_
  refine g_aload_n 0 C rfl dX7_areFour_26 rfl ?_
  refine g_aload_n 0 C rfl dX7_areFour_27 rfl ?_
  refine gf_X7_45 C dX7_areFour_28 ?_
  refine g_iconst C dX7_areFour_31 ?_
  refine g_iald C 11 0 (by decide) (fun _ => rfl) (by omega) (by omega) (by decide) dX7_areFour_32 ?_
  rw [show σ 11 0 = (b0 : Int) from hb0]
  refine g_aload_n 0 C rfl dX7_areFour_33 rfl ?_
  refine gf_X7_45 C dX7_areFour_34 ?_
  refine g_iconst C dX7_areFour_37 ?_
  refine g_iald C 11 2 (by decide) (fun _ => rfl) (by omega) (by omega) (by decide) dX7_areFour_38 ?_
  rw [show σ 11 2 = (b2 : Int) from hb2]
  refine g_aload_n 0 C rfl dX7_areFour_39 rfl ?_
  refine gf_X7_45 C dX7_areFour_40 ?_
  refine g_iconst C dX7_areFour_43 ?_
  refine g_iald C 11 3 (by decide) (fun _ => rfl) (by omega) (by omega) (by decide) dX7_areFour_44 ?_
  rw [show σ 11 3 = (b3 : Int) from hb3]
  refine g_iconst C dX7_areFour_45 ?_
  refine g_iconst C dX7_areFour_46 ?_
  refine g_iconst C dX7_areFour_47 ?_
  refine g_callL C (c_X7_three g (σ := σ) (p1 := b0) (p2 := b2) (p3 := b3) (x1 := 0) (x2 := 1) (x3 := 2) (by omega) (by omega) (by omega) (by decide) (by decide) (by decide)) gv_X7_95 yd_X7_three ⟨by decide, by decide⟩ 0 7 (WD_get (by decide)) rfl rfl (Nat.le_of_ble_eq_true rfl) dX7_areFour_48 ?_
  rintro _ _ rfl
  refine g_lneg C dX7_areFour_51 ?_
  refine g_lname (fun w2 ew2 => ?_)
  refine g_lstore_n (lv' := [(0, .ref (q 0)), (1, .long (lZ w1)), (3, .long (lZ w2))]) [1, 2, 0] C dX7_areFour_52 rfl (by decide) rfl ?_
  refine g_aload_n 0 C rfl dX7_areFour_53 rfl ?_
  refine g_aload_n 0 C rfl dX7_areFour_54 rfl ?_
  refine gf_X7_45 C dX7_areFour_55 ?_
  refine g_iconst C dX7_areFour_58 ?_
  refine g_iald C 11 0 (by decide) (fun _ => rfl) (by omega) (by omega) (by decide) dX7_areFour_59 ?_
  rw [show σ 11 0 = (b0 : Int) from hb0]
  refine g_aload_n 0 C rfl dX7_areFour_60 rfl ?_
  refine gf_X7_45 C dX7_areFour_61 ?_
  refine g_iconst C dX7_areFour_64 ?_
  refine g_iald C 11 1 (by decide) (fun _ => rfl) (by omega) (by omega) (by decide) dX7_areFour_65 ?_
  rw [show σ 11 1 = (b1 : Int) from hb1]
  refine g_aload_n 0 C rfl dX7_areFour_66 rfl ?_
  refine gf_X7_45 C dX7_areFour_67 ?_
  refine g_iconst C dX7_areFour_70 ?_
  refine g_iald C 11 3 (by decide) (fun _ => rfl) (by omega) (by omega) (by decide) dX7_areFour_71 ?_
  rw [show σ 11 3 = (b3 : Int) from hb3]
  refine g_iconst C dX7_areFour_72 ?_
  refine g_iconst C dX7_areFour_73 ?_
  refine g_iconst C dX7_areFour_74 ?_
  refine g_callL C (c_X7_three g (σ := σ) (p1 := b0) (p2 := b1) (p3 := b3) (x1 := 0) (x2 := 1) (x3 := 2) (by omega) (by omega) (by omega) (by decide) (by decide) (by decide)) gv_X7_95 yd_X7_three ⟨by decide, by decide⟩ 0 7 (WD_get (by decide)) rfl rfl (Nat.le_of_ble_eq_true rfl) dX7_areFour_75 ?_
  rintro _ _ rfl
  refine g_lname (fun w3 ew3 => ?_)
  refine g_lstore (lv' := [(0, .ref (q 0)), (1, .long (lZ w1)), (3, .long (lZ w2)), (5, .long (lZ w3))]) [1, 2, 3, 0] C dX7_areFour_78 (by decide) rfl ?_
  refine g_aload_n 0 C rfl dX7_areFour_80 rfl ?_
  refine g_aload_n 0 C rfl dX7_areFour_81 rfl ?_
  refine gf_X7_45 C dX7_areFour_82 ?_
  refine g_iconst C dX7_areFour_85 ?_
  refine g_iald C 11 0 (by decide) (fun _ => rfl) (by omega) (by omega) (by decide) dX7_areFour_86 ?_
  rw [show σ 11 0 = (b0 : Int) from hb0]
  refine g_aload_n 0 C rfl dX7_areFour_87 rfl ?_
  refine gf_X7_45 C dX7_areFour_88 ?_
  refine g_iconst C dX7_areFour_91 ?_
  refine g_iald C 11 1 (by decide) (fun _ => rfl) (by omega) (by omega) (by decide) dX7_areFour_92 ?_
  rw [show σ 11 1 = (b1 : Int) from hb1]
  refine g_aload_n 0 C rfl dX7_areFour_93 rfl ?_
  refine gf_X7_45 C dX7_areFour_94 ?_
  refine g_iconst C dX7_areFour_97 ?_
  refine g_iald C 11 2 (by decide) (fun _ => rfl) (by omega) (by omega) (by decide) dX7_areFour_98 ?_
  rw [show σ 11 2 = (b2 : Int) from hb2]
  refine g_iconst C dX7_areFour_99 ?_
  refine g_iconst C dX7_areFour_100 ?_
  refine g_iconst C dX7_areFour_101 ?_
  refine g_callL C (c_X7_three g (σ := σ) (p1 := b0) (p2 := b1) (p3 := b2) (x1 := 0) (x2 := 1) (x3 := 2) (by omega) (by omega) (by omega) (by decide) (by decide) (by decide)) gv_X7_95 yd_X7_three ⟨by decide, by decide⟩ 0 7 (WD_get (by decide)) rfl rfl (Nat.le_of_ble_eq_true rfl) dX7_areFour_102 ?_
  rintro _ _ rfl
  refine g_lneg C dX7_areFour_105 ?_
  refine g_lname (fun w4 ew4 => ?_)
  refine g_lstore (lv' := [(0, .ref (q 0)), (1, .long (lZ w1)), (3, .long (lZ w2)), (5, .long (lZ w3)), (7, .long (lZ w4))]) [1, 2, 3, 4, 0] C dX7_areFour_106 (by decide) rfl ?_
  refine g_aload_n 0 C rfl dX7_areFour_108 rfl ?_
  refine g_iconst C dX7_areFour_109 ?_
  refine g_lload_n 1 C rfl dX7_areFour_110 rfl ?_
  refine g_lload_n 2 C rfl dX7_areFour_111 rfl ?_
  refine g_lload 3 C rfl dX7_areFour_112 ?_
  refine g_lload 4 C rfl dX7_areFour_114 ?_
  subst ew4
  subst ew3
  subst ew2
  subst ew1
  have q1 := hR.d012 hc1 hc2 hc3
  have q2 := (hR.d012 hc0 hc2 hc3).neg
  have q3 := hR.d012 hc0 hc1 hc3
  have q4 := (hR.d012 hc0 hc1 hc2).neg
  refine g_callI C (c_X7_isAgainst4 g (σ := σ) (b0 := b0) (b1 := b1) (b2 := b2) (b3 := b3) (s := det3 (rwf σ) b1 b2 b3 0 1 2) (t := -(det3 (rwf σ) b0 b2 b3 0 1 2)) (u := det3 (rwf σ) b0 b1 b3 0 1 2) (v := -(det3 (rwf σ) b0 b1 b2 0 1 2)) hb0 (by omega) hb1 (by omega) hb2 (by omega) hb3 (by omega) (q1.M (by decide)) (q2.M (by decide)) (q3.M (by decide)) (q4.M (by decide)) (sm4_bd hR hc0 hc1 hc2 hc3 q1 q2 q3 q4 (by decide))) gv_X7_163 yd_X7_isAgainst ⟨by decide, by decide⟩ 0 7 (WD_get (by decide)) rfl rfl (Nat.le_of_ble_eq_true rfl) dX7_areFour_116 ?_
  rintro _ _ rfl
  refine g_zret (u := ()) C T dX7_areFour_119 (bZ_or _) ?_
  exact ⟨_, rfl, rfl⟩
def Seen4 (nr p q r s : Nat) (p' q' r' s' : Nat) : Prop := p' < q' ∧ q' < r' ∧ r' < s' ∧ s' < nr ∧ (p' < p ∨ (p' = p ∧ (q' < q ∨ (q' = q ∧ (r' < r ∨ (r' = r ∧ s' < s))))))
def N3 (f : Nat → Nat → Int) (S : Nat → Nat → Nat → Prop) : Prop := ∀ p q r, S p q r → ¬ Three f p q r
def N4 (f : Nat → Nat → Int) (S : Nat → Nat → Nat → Nat → Prop) : Prop := ∀ p q r s, S p q r s → ¬ Four f p q r s
def FrB (σ u : Nat → Nat → Int) : Prop := ∀ c, c ≠ 11 → u c = σ c
theorem FrB.rw {σ u : Nat → Nat → Int} (h : FrB σ u) : rwf u = rwf σ := by
  funext r c
  unfold rwf
  rw [h 8 (by decide)]
theorem FrB.up {σ u : Nat → Nat → Int} {k : Nat} {z : Int} (h : FrB σ u) : FrB σ (up u 11 k z) := fun c hc => by rw [up_c hc]; exact h c hc
/-- what is found: the first three rows that bar, else the first four, else nothing -/
def FB (f : Nat → Nat → Int) (nr : Nat) (z : Int) (u : Nat → Nat → Int) : Prop := (z = 3 ∧ ∃ p q r, p < q ∧ q < r ∧ r < nr ∧ Three f p q r ∧ N3 f (SeenF nr p q r) ∧ u 11 0 = (p : Int) ∧ u 11 1 = (q : Int) ∧ u 11 2 = (r : Int)) ∨ (N3 f (AllT nr) ∧ ((z = 4 ∧ ∃ p q r s, p < q ∧ q < r ∧ r < s ∧ s < nr ∧ Four f p q r s ∧ N4 f (Seen4 nr p q r s) ∧ u 11 0 = (p : Int) ∧ u 11 1 = (q : Int) ∧ u 11 2 = (r : Int) ∧ u 11 3 = (s : Int)) ∨ (z = 0 ∧ N4 f (fun p q r s => p < q ∧ q < r ∧ r < s ∧ s < nr))))
set_option maxHeartbeats 4000000 in
set_option maxRecDepth 20000 in
theorem fb2_1 {g : Gx} {K : Kx} {q : Nat → Nat} {σ : Nat → Nat → Int} {nr : Nat} (hn : σ 0 9 = (nr : Int)) (hn16 : nr ≤ 16) (hR : RBF σ nr) (h2no : ∀ p q, p < q → q < nr → ¬ Two (rwf σ) p q) {p1 : Nat}  (C : CX g K cX7_findBars RX7 1 3 93) {post : Option Value → (Nat → Nat → Int) → Prop} (T : RT g K (some .int) (fun u => WM g q u) post) (hT : ∀ (z : Int) (u : Nat → Nat → Int), FrB σ u → FB (rwf σ) nr z u → post (some (.int (iZ z))) u) (hk : ∀ τ : Nat → Nat → Int, FrB σ τ → τ 11 0 = (p1 : Int) → True → GJ g K (WM g q τ) 74 [(0, .ref (q 0))] []) : ∀ (d p2 : Nat), p1 < p2 → p2 ≤ nr → nr < p2 + d → ∀ τ : Nat → Nat → Int, FrB σ τ → τ 11 0 = (p1 : Int) → τ 11 1 = (p2 : Int) → True → GJ g K (WM g q τ) 39 [(0, .ref (q 0))] [] := by
  intro d
  induction d with
  | zero => intro p2 k0 k1 k2; omega
  | succ d ih =>
    intro p2 k0 k1 k2 τ hF v0 v1 hI
    refine g_aload_n 0 C rfl dX7_findBars_39 rfl ?_
    refine gf_X7_45 C dX7_findBars_40 ?_
    refine g_iconst C dX7_findBars_43 ?_
    refine g_iald C 11 1 (by decide) (fun _ => rfl) (by omega) (by omega) (by decide) dX7_findBars_44 ?_
    rw [show τ 11 1 = (p2 : Int) from v1]
    refine g_aload_n 0 C rfl dX7_findBars_45 rfl ?_
    refine gf_X7_88 C dX7_findBars_46 ?_
    rw [show τ 0 9 = (nr : Int) from ((congrFun (hF 0 (by decide)) 9).trans hn)]
    refine g_icmp_ge 74 C (by unfold I32; omega) (by unfold I32; omega) dX7_findBars_49 (by decide) (fun h1 => ?_) (fun h1 => ?_)
    · obtain rfl : p2 = nr := by omega
      exact hk τ hF v0 trivial
    · refine g_aload_n 0 C rfl dX7_findBars_52 rfl ?_
      refine g_callI C (c_X7_areTwo g (σ := τ) (nr := nr) hn16 (hR.same hF.rw) v0 (by omega) v1 (by omega)) gv_X7_171 yd_X7_areTwo ⟨by decide, by decide⟩ 0 7 (WD_get (by decide)) rfl rfl (Nat.le_of_ble_eq_true rfl) dX7_findBars_53 ?_
      rintro _ _ rfl
      rw [hF.rw]
      refine g_beq 61 C dX7_findBars_56 (by decide) (fun h2 => ?_) (fun h2 => ?_)
      · refine g_aload_n 0 C rfl dX7_findBars_61 rfl ?_
        refine gf_X7_45 C dX7_findBars_62 ?_
        refine g_iconst C dX7_findBars_65 ?_
        refine g_dup2 C dX7_findBars_66 rfl rfl ?_
        refine g_iald C 11 1 (by decide) (fun _ => rfl) (by omega) (by omega) (by decide) dX7_findBars_67 ?_
        rw [show τ 11 1 = (p2 : Int) from v1]
        refine g_iconst C dX7_findBars_68 ?_
        refine g_iadd C dX7_findBars_69 ?_
        refine g_iast C 11 1 (by decide) (fun _ => rfl) (by omega) (by omega) (by decide) dX7_findBars_70 ?_
        refine g_goto 39 C dX7_findBars_71 (by decide) ?_
        exact ih (p2 + 1) (by omega) (by omega) (by omega) _ hF.up ((up_k (by decide)).trans v0) (up_s _ _ _ _) trivial
      · refine g_iconst C dX7_findBars_59 ?_
        refine g_iret (u := τ) C T dX7_findBars_60 ?_
        exact absurd h2 (h2no _ _ (by omega) (by omega))
set_option maxHeartbeats 4000000 in
set_option maxRecDepth 20000 in
theorem fb2_0 {g : Gx} {K : Kx} {q : Nat → Nat} {σ : Nat → Nat → Int} {nr : Nat} (hn : σ 0 9 = (nr : Int)) (hn16 : nr ≤ 16) (hR : RBF σ nr) (h2no : ∀ p q, p < q → q < nr → ¬ Two (rwf σ) p q)  (C : CX g K cX7_findBars RX7 1 3 93) {post : Option Value → (Nat → Nat → Int) → Prop} (T : RT g K (some .int) (fun u => WM g q u) post) (hT : ∀ (z : Int) (u : Nat → Nat → Int), FrB σ u → FB (rwf σ) nr z u → post (some (.int (iZ z))) u) (hk : ∀ τ : Nat → Nat → Int, FrB σ τ → True → GJ g K (WM g q τ) 87 [(0, .ref (q 0))] []) : ∀ (d p1 : Nat), p1 ≤ nr → nr < p1 + d → ∀ τ : Nat → Nat → Int, FrB σ τ → τ 11 0 = (p1 : Int) → True → GJ g K (WM g q τ) 12 [(0, .ref (q 0))] [] := by
  intro d
  induction d with
  | zero => intro p1 k1 k2; omega
  | succ d ih =>
    intro p1 k1 k2 τ hF v0 hI
    refine g_aload_n 0 C rfl dX7_findBars_12 rfl ?_
    refine gf_X7_45 C dX7_findBars_13 ?_
    refine g_iconst C dX7_findBars_16 ?_
    refine g_iald C 11 0 (by decide) (fun _ => rfl) (by omega) (by omega) (by decide) dX7_findBars_17 ?_
    rw [show τ 11 0 = (p1 : Int) from v0]
    refine g_aload_n 0 C rfl dX7_findBars_18 rfl ?_
    refine gf_X7_88 C dX7_findBars_19 ?_
    rw [show τ 0 9 = (nr : Int) from ((congrFun (hF 0 (by decide)) 9).trans hn)]
    refine g_icmp_ge 87 C (by unfold I32; omega) (by unfold I32; omega) dX7_findBars_22 (by decide) (fun h1 => ?_) (fun h1 => ?_)
    · obtain rfl : p1 = nr := by omega
      exact hk τ hF  trivial
    · refine g_aload_n 0 C rfl dX7_findBars_25 rfl ?_
      refine gf_X7_45 C dX7_findBars_26 ?_
      refine g_iconst C dX7_findBars_29 ?_
      refine g_aload_n 0 C rfl dX7_findBars_30 rfl ?_
      refine gf_X7_45 C dX7_findBars_31 ?_
      refine g_iconst C dX7_findBars_34 ?_
      refine g_iald C 11 0 (by decide) (fun _ => rfl) (by omega) (by omega) (by decide) dX7_findBars_35 ?_
      rw [show τ 11 0 = (p1 : Int) from v0]
      refine g_iconst C dX7_findBars_36 ?_
      refine g_iadd C dX7_findBars_37 ?_
      refine g_iast C 11 1 (by decide) (fun _ => rfl) (by omega) (by omega) (by decide) dX7_findBars_38 ?_
      refine fb2_1 hn hn16 hR h2no  C T hT (fun τ2 hF2 x0 hI2 => ?_) (nr + 1) (p1 + 1) (by omega) (by omega) (by omega) _ hF.up ((up_k (by decide)).trans v0) (up_s _ _ _ _) trivial
      refine g_aload_n 0 C rfl dX7_findBars_74 rfl ?_
      refine gf_X7_45 C dX7_findBars_75 ?_
      refine g_iconst C dX7_findBars_78 ?_
      refine g_dup2 C dX7_findBars_79 rfl rfl ?_
      refine g_iald C 11 0 (by decide) (fun _ => rfl) (by omega) (by omega) (by decide) dX7_findBars_80 ?_
      rw [show τ2 11 0 = (p1 : Int) from x0]
      refine g_iconst C dX7_findBars_81 ?_
      refine g_iadd C dX7_findBars_82 ?_
      refine g_iast C 11 0 (by decide) (fun _ => rfl) (by omega) (by omega) (by decide) dX7_findBars_83 ?_
      refine g_goto 12 C dX7_findBars_84 (by decide) ?_
      exact ih (p1 + 1) (by omega) (by omega) _ hF2.up  (up_s _ _ _ _) trivial
set_option maxHeartbeats 4000000 in
set_option maxRecDepth 20000 in
theorem fb3_2 {g : Gx} {K : Kx} {q : Nat → Nat} {σ : Nat → Nat → Int} {nr : Nat} (hn : σ 0 9 = (nr : Int)) (hn16 : nr ≤ 16) (hR : RBF σ nr) (h2no : ∀ p q, p < q → q < nr → ¬ Two (rwf σ) p q) {p1 p2 : Nat} (l1 : p1 < p2) (C : CX g K cX7_findBars RX7 1 3 93) {post : Option Value → (Nat → Nat → Int) → Prop} (T : RT g K (some .int) (fun u => WM g q u) post) (hT : ∀ (z : Int) (u : Nat → Nat → Int), FrB σ u → FB (rwf σ) nr z u → post (some (.int (iZ z))) u) (hk : ∀ τ : Nat → Nat → Int, FrB σ τ → τ 11 0 = (p1 : Int) → τ 11 1 = (p2 : Int) → (N3 (rwf σ) (SeenF nr p1 p2 nr)) → GJ g K (WM g q τ) 183 [(0, .ref (q 0))] []) : ∀ (d p3 : Nat), p2 < p3 → p3 ≤ nr → nr < p3 + d → ∀ τ : Nat → Nat → Int, FrB σ τ → τ 11 0 = (p1 : Int) → τ 11 1 = (p2 : Int) → τ 11 2 = (p3 : Int) → (N3 (rwf σ) (SeenF nr p1 p2 p3)) → GJ g K (WM g q τ) 148 [(0, .ref (q 0))] [] := by
  intro d
  induction d with
  | zero => intro p3 k0 k1 k2; omega
  | succ d ih =>
    intro p3 k0 k1 k2 τ hF v0 v1 v2 hI
    refine g_aload_n 0 C rfl dX7_findBars_148 rfl ?_
    refine gf_X7_45 C dX7_findBars_149 ?_
    refine g_iconst C dX7_findBars_152 ?_
    refine g_iald C 11 2 (by decide) (fun _ => rfl) (by omega) (by omega) (by decide) dX7_findBars_153 ?_
    rw [show τ 11 2 = (p3 : Int) from v2]
    refine g_aload_n 0 C rfl dX7_findBars_154 rfl ?_
    refine gf_X7_88 C dX7_findBars_155 ?_
    rw [show τ 0 9 = (nr : Int) from ((congrFun (hF 0 (by decide)) 9).trans hn)]
    refine g_icmp_ge 183 C (by unfold I32; omega) (by unfold I32; omega) dX7_findBars_158 (by decide) (fun h1 => ?_) (fun h1 => ?_)
    · obtain rfl : p3 = nr := by omega
      exact hk τ hF v0 v1 (fun p' q' r' h9 => hI p' q' r' (by unfold SeenF at *; omega))
    · refine g_aload_n 0 C rfl dX7_findBars_161 rfl ?_
      refine g_callI C (c_X7_areThree g (σ := τ) (nr := nr) hn16 (hR.same hF.rw) v0 (by omega) v1 (by omega) v2 (by omega)) gv_X7_174 yd_X7_areThree ⟨by decide, by decide⟩ 0 7 (WD_get (by decide)) rfl rfl (Nat.le_of_ble_eq_true rfl) dX7_findBars_162 ?_
      rintro _ _ rfl
      rw [hF.rw]
      refine g_beq 170 C dX7_findBars_165 (by decide) (fun h2 => ?_) (fun h2 => ?_)
      · refine g_aload_n 0 C rfl dX7_findBars_170 rfl ?_
        refine gf_X7_45 C dX7_findBars_171 ?_
        refine g_iconst C dX7_findBars_174 ?_
        refine g_dup2 C dX7_findBars_175 rfl rfl ?_
        refine g_iald C 11 2 (by decide) (fun _ => rfl) (by omega) (by omega) (by decide) dX7_findBars_176 ?_
        rw [show τ 11 2 = (p3 : Int) from v2]
        refine g_iconst C dX7_findBars_177 ?_
        refine g_iadd C dX7_findBars_178 ?_
        refine g_iast C 11 2 (by decide) (fun _ => rfl) (by omega) (by omega) (by decide) dX7_findBars_179 ?_
        refine g_goto 148 C dX7_findBars_180 (by decide) ?_
        have hI2 : (N3 (rwf σ) (SeenF nr p1 p2 (p3 + 1))) := by
          intro p' q' r' h9 h8
          by_cases h7 : p' = p1 ∧ q' = p2 ∧ r' = p3
          · obtain ⟨rfl, rfl, rfl⟩ := h7; exact h2 h8
          · exact hI p' q' r' (by unfold SeenF at *; omega) h8
        exact ih (p3 + 1) (by omega) (by omega) (by omega) _ hF.up ((up_k (by decide)).trans v0) ((up_k (by decide)).trans v1) (up_s _ _ _ _) hI2
      · refine g_iconst C dX7_findBars_168 ?_
        refine g_iret (u := τ) C T dX7_findBars_169 ?_
        exact hT _ _ hF (Or.inl ⟨rfl, p1, p2, p3, by omega, by omega, by omega, h2, hI, v0, v1, v2⟩)
set_option maxHeartbeats 4000000 in
set_option maxRecDepth 20000 in
theorem fb3_1 {g : Gx} {K : Kx} {q : Nat → Nat} {σ : Nat → Nat → Int} {nr : Nat} (hn : σ 0 9 = (nr : Int)) (hn16 : nr ≤ 16) (hR : RBF σ nr) (h2no : ∀ p q, p < q → q < nr → ¬ Two (rwf σ) p q) {p1 : Nat}  (C : CX g K cX7_findBars RX7 1 3 93) {post : Option Value → (Nat → Nat → Int) → Prop} (T : RT g K (some .int) (fun u => WM g q u) post) (hT : ∀ (z : Int) (u : Nat → Nat → Int), FrB σ u → FB (rwf σ) nr z u → post (some (.int (iZ z))) u) (hk : ∀ τ : Nat → Nat → Int, FrB σ τ → τ 11 0 = (p1 : Int) → (N3 (rwf σ) (SeenF nr p1 nr nr)) → GJ g K (WM g q τ) 196 [(0, .ref (q 0))] []) : ∀ (d p2 : Nat), p1 < p2 → p2 ≤ nr → nr < p2 + d → ∀ τ : Nat → Nat → Int, FrB σ τ → τ 11 0 = (p1 : Int) → τ 11 1 = (p2 : Int) → (N3 (rwf σ) (SeenF nr p1 p2 (p2 + 1))) → GJ g K (WM g q τ) 121 [(0, .ref (q 0))] [] := by
  intro d
  induction d with
  | zero => intro p2 k0 k1 k2; omega
  | succ d ih =>
    intro p2 k0 k1 k2 τ hF v0 v1 hI
    refine g_aload_n 0 C rfl dX7_findBars_121 rfl ?_
    refine gf_X7_45 C dX7_findBars_122 ?_
    refine g_iconst C dX7_findBars_125 ?_
    refine g_iald C 11 1 (by decide) (fun _ => rfl) (by omega) (by omega) (by decide) dX7_findBars_126 ?_
    rw [show τ 11 1 = (p2 : Int) from v1]
    refine g_aload_n 0 C rfl dX7_findBars_127 rfl ?_
    refine gf_X7_88 C dX7_findBars_128 ?_
    rw [show τ 0 9 = (nr : Int) from ((congrFun (hF 0 (by decide)) 9).trans hn)]
    refine g_icmp_ge 196 C (by unfold I32; omega) (by unfold I32; omega) dX7_findBars_131 (by decide) (fun h1 => ?_) (fun h1 => ?_)
    · obtain rfl : p2 = nr := by omega
      exact hk τ hF v0 (fun p' q' r' h9 => hI p' q' r' (by unfold SeenF at *; omega))
    · refine g_aload_n 0 C rfl dX7_findBars_134 rfl ?_
      refine gf_X7_45 C dX7_findBars_135 ?_
      refine g_iconst C dX7_findBars_138 ?_
      refine g_aload_n 0 C rfl dX7_findBars_139 rfl ?_
      refine gf_X7_45 C dX7_findBars_140 ?_
      refine g_iconst C dX7_findBars_143 ?_
      refine g_iald C 11 1 (by decide) (fun _ => rfl) (by omega) (by omega) (by decide) dX7_findBars_144 ?_
      rw [show τ 11 1 = (p2 : Int) from v1]
      refine g_iconst C dX7_findBars_145 ?_
      refine g_iadd C dX7_findBars_146 ?_
      refine g_iast C 11 2 (by decide) (fun _ => rfl) (by omega) (by omega) (by decide) dX7_findBars_147 ?_
      refine fb3_2 hn hn16 hR h2no (by omega) C T hT (fun τ2 hF2 x0 x1 hI2 => ?_) (nr + 1) (p2 + 1) (by omega) (by omega) (by omega) _ hF.up ((up_k (by decide)).trans v0) ((up_k (by decide)).trans v1) (up_s _ _ _ _) (fun p' q' r' h9 => hI p' q' r' (by unfold SeenF at *; omega))
      refine g_aload_n 0 C rfl dX7_findBars_183 rfl ?_
      refine gf_X7_45 C dX7_findBars_184 ?_
      refine g_iconst C dX7_findBars_187 ?_
      refine g_dup2 C dX7_findBars_188 rfl rfl ?_
      refine g_iald C 11 1 (by decide) (fun _ => rfl) (by omega) (by omega) (by decide) dX7_findBars_189 ?_
      rw [show τ2 11 1 = (p2 : Int) from x1]
      refine g_iconst C dX7_findBars_190 ?_
      refine g_iadd C dX7_findBars_191 ?_
      refine g_iast C 11 1 (by decide) (fun _ => rfl) (by omega) (by omega) (by decide) dX7_findBars_192 ?_
      refine g_goto 121 C dX7_findBars_193 (by decide) ?_
      exact ih (p2 + 1) (by omega) (by omega) (by omega) _ hF2.up ((up_k (by decide)).trans x0) (up_s _ _ _ _) (fun p' q' r' h9 => hI2 p' q' r' (by unfold SeenF at *; omega))
set_option maxHeartbeats 4000000 in
set_option maxRecDepth 20000 in
theorem fb3_0 {g : Gx} {K : Kx} {q : Nat → Nat} {σ : Nat → Nat → Int} {nr : Nat} (hn : σ 0 9 = (nr : Int)) (hn16 : nr ≤ 16) (hR : RBF σ nr) (h2no : ∀ p q, p < q → q < nr → ¬ Two (rwf σ) p q)  (C : CX g K cX7_findBars RX7 1 3 93) {post : Option Value → (Nat → Nat → Int) → Prop} (T : RT g K (some .int) (fun u => WM g q u) post) (hT : ∀ (z : Int) (u : Nat → Nat → Int), FrB σ u → FB (rwf σ) nr z u → post (some (.int (iZ z))) u) (hk : ∀ τ : Nat → Nat → Int, FrB σ τ → (N3 (rwf σ) (SeenF nr nr nr nr)) → GJ g K (WM g q τ) 209 [(0, .ref (q 0))] []) : ∀ (d p1 : Nat), p1 ≤ nr → nr < p1 + d → ∀ τ : Nat → Nat → Int, FrB σ τ → τ 11 0 = (p1 : Int) → (N3 (rwf σ) (SeenF nr p1 (p1 + 1) ((p1 + 1) + 1))) → GJ g K (WM g q τ) 94 [(0, .ref (q 0))] [] := by
  intro d
  induction d with
  | zero => intro p1 k1 k2; omega
  | succ d ih =>
    intro p1 k1 k2 τ hF v0 hI
    refine g_aload_n 0 C rfl dX7_findBars_94 rfl ?_
    refine gf_X7_45 C dX7_findBars_95 ?_
    refine g_iconst C dX7_findBars_98 ?_
    refine g_iald C 11 0 (by decide) (fun _ => rfl) (by omega) (by omega) (by decide) dX7_findBars_99 ?_
    rw [show τ 11 0 = (p1 : Int) from v0]
    refine g_aload_n 0 C rfl dX7_findBars_100 rfl ?_
    refine gf_X7_88 C dX7_findBars_101 ?_
    rw [show τ 0 9 = (nr : Int) from ((congrFun (hF 0 (by decide)) 9).trans hn)]
    refine g_icmp_ge 209 C (by unfold I32; omega) (by unfold I32; omega) dX7_findBars_104 (by decide) (fun h1 => ?_) (fun h1 => ?_)
    · obtain rfl : p1 = nr := by omega
      exact hk τ hF  (fun p' q' r' h9 => hI p' q' r' (by unfold SeenF at *; omega))
    · refine g_aload_n 0 C rfl dX7_findBars_107 rfl ?_
      refine gf_X7_45 C dX7_findBars_108 ?_
      refine g_iconst C dX7_findBars_111 ?_
      refine g_aload_n 0 C rfl dX7_findBars_112 rfl ?_
      refine gf_X7_45 C dX7_findBars_113 ?_
      refine g_iconst C dX7_findBars_116 ?_
      refine g_iald C 11 0 (by decide) (fun _ => rfl) (by omega) (by omega) (by decide) dX7_findBars_117 ?_
      rw [show τ 11 0 = (p1 : Int) from v0]
      refine g_iconst C dX7_findBars_118 ?_
      refine g_iadd C dX7_findBars_119 ?_
      refine g_iast C 11 1 (by decide) (fun _ => rfl) (by omega) (by omega) (by decide) dX7_findBars_120 ?_
      refine fb3_1 hn hn16 hR h2no  C T hT (fun τ2 hF2 x0 hI2 => ?_) (nr + 1) (p1 + 1) (by omega) (by omega) (by omega) _ hF.up ((up_k (by decide)).trans v0) (up_s _ _ _ _) (fun p' q' r' h9 => hI p' q' r' (by unfold SeenF at *; omega))
      refine g_aload_n 0 C rfl dX7_findBars_196 rfl ?_
      refine gf_X7_45 C dX7_findBars_197 ?_
      refine g_iconst C dX7_findBars_200 ?_
      refine g_dup2 C dX7_findBars_201 rfl rfl ?_
      refine g_iald C 11 0 (by decide) (fun _ => rfl) (by omega) (by omega) (by decide) dX7_findBars_202 ?_
      rw [show τ2 11 0 = (p1 : Int) from x0]
      refine g_iconst C dX7_findBars_203 ?_
      refine g_iadd C dX7_findBars_204 ?_
      refine g_iast C 11 0 (by decide) (fun _ => rfl) (by omega) (by omega) (by decide) dX7_findBars_205 ?_
      refine g_goto 94 C dX7_findBars_206 (by decide) ?_
      exact ih (p1 + 1) (by omega) (by omega) _ hF2.up  (up_s _ _ _ _) (fun p' q' r' h9 => hI2 p' q' r' (by unfold SeenF at *; omega))
set_option maxHeartbeats 4000000 in
set_option maxRecDepth 20000 in
theorem fb4_3 {g : Gx} {K : Kx} {q : Nat → Nat} {σ : Nat → Nat → Int} {nr : Nat} (hn : σ 0 9 = (nr : Int)) (hn16 : nr ≤ 16) (hR : RBF σ nr) (h2no : ∀ p q, p < q → q < nr → ¬ Two (rwf σ) p q) (h3no : N3 (rwf σ) (AllT nr)) {p1 p2 p3 : Nat} (l1 : p1 < p2) (l2 : p2 < p3) (C : CX g K cX7_findBars RX7 1 3 93) {post : Option Value → (Nat → Nat → Int) → Prop} (T : RT g K (some .int) (fun u => WM g q u) post) (hT : ∀ (z : Int) (u : Nat → Nat → Int), FrB σ u → FB (rwf σ) nr z u → post (some (.int (iZ z))) u) (hk : ∀ τ : Nat → Nat → Int, FrB σ τ → τ 11 0 = (p1 : Int) → τ 11 1 = (p2 : Int) → τ 11 2 = (p3 : Int) → (N4 (rwf σ) (Seen4 nr p1 p2 p3 nr)) → GJ g K (WM g q τ) 332 [(0, .ref (q 0))] []) : ∀ (d p4 : Nat), p3 < p4 → p4 ≤ nr → nr < p4 + d → ∀ τ : Nat → Nat → Int, FrB σ τ → τ 11 0 = (p1 : Int) → τ 11 1 = (p2 : Int) → τ 11 2 = (p3 : Int) → τ 11 3 = (p4 : Int) → (N4 (rwf σ) (Seen4 nr p1 p2 p3 p4)) → GJ g K (WM g q τ) 297 [(0, .ref (q 0))] [] := by
  intro d
  induction d with
  | zero => intro p4 k0 k1 k2; omega
  | succ d ih =>
    intro p4 k0 k1 k2 τ hF v0 v1 v2 v3 hI
    refine g_aload_n 0 C rfl dX7_findBars_297 rfl ?_
    refine gf_X7_45 C dX7_findBars_298 ?_
    refine g_iconst C dX7_findBars_301 ?_
    refine g_iald C 11 3 (by decide) (fun _ => rfl) (by omega) (by omega) (by decide) dX7_findBars_302 ?_
    rw [show τ 11 3 = (p4 : Int) from v3]
    refine g_aload_n 0 C rfl dX7_findBars_303 rfl ?_
    refine gf_X7_88 C dX7_findBars_304 ?_
    rw [show τ 0 9 = (nr : Int) from ((congrFun (hF 0 (by decide)) 9).trans hn)]
    refine g_icmp_ge 332 C (by unfold I32; omega) (by unfold I32; omega) dX7_findBars_307 (by decide) (fun h1 => ?_) (fun h1 => ?_)
    · obtain rfl : p4 = nr := by omega
      exact hk τ hF v0 v1 v2 (fun p' q' r' s' h9 => hI p' q' r' s' (by unfold Seen4 at *; omega))
    · refine g_aload_n 0 C rfl dX7_findBars_310 rfl ?_
      refine g_callI C (c_X7_areFour g (σ := τ) (nr := nr) hn16 (hR.same hF.rw) v0 (by omega) v1 (by omega) v2 (by omega) v3 (by omega)) gv_X7_177 yd_X7_areFour ⟨by decide, by decide⟩ 0 7 (WD_get (by decide)) rfl rfl (Nat.le_of_ble_eq_true rfl) dX7_findBars_311 ?_
      rintro _ _ rfl
      rw [hF.rw]
      refine g_beq 319 C dX7_findBars_314 (by decide) (fun h2 => ?_) (fun h2 => ?_)
      · refine g_aload_n 0 C rfl dX7_findBars_319 rfl ?_
        refine gf_X7_45 C dX7_findBars_320 ?_
        refine g_iconst C dX7_findBars_323 ?_
        refine g_dup2 C dX7_findBars_324 rfl rfl ?_
        refine g_iald C 11 3 (by decide) (fun _ => rfl) (by omega) (by omega) (by decide) dX7_findBars_325 ?_
        rw [show τ 11 3 = (p4 : Int) from v3]
        refine g_iconst C dX7_findBars_326 ?_
        refine g_iadd C dX7_findBars_327 ?_
        refine g_iast C 11 3 (by decide) (fun _ => rfl) (by omega) (by omega) (by decide) dX7_findBars_328 ?_
        refine g_goto 297 C dX7_findBars_329 (by decide) ?_
        have hI2 : (N4 (rwf σ) (Seen4 nr p1 p2 p3 (p4 + 1))) := by
          intro p' q' r' s' h9 h8
          by_cases h7 : p' = p1 ∧ q' = p2 ∧ r' = p3 ∧ s' = p4
          · obtain ⟨rfl, rfl, rfl, rfl⟩ := h7; exact h2 h8
          · exact hI p' q' r' s' (by unfold Seen4 at *; omega) h8
        exact ih (p4 + 1) (by omega) (by omega) (by omega) _ hF.up ((up_k (by decide)).trans v0) ((up_k (by decide)).trans v1) ((up_k (by decide)).trans v2) (up_s _ _ _ _) hI2
      · refine g_iconst C dX7_findBars_317 ?_
        refine g_iret (u := τ) C T dX7_findBars_318 ?_
        exact hT _ _ hF (Or.inr ⟨h3no, Or.inl ⟨rfl, p1, p2, p3, p4, by omega, by omega, by omega, by omega, h2, hI, v0, v1, v2, v3⟩⟩)
set_option maxHeartbeats 4000000 in
set_option maxRecDepth 20000 in
theorem fb4_2 {g : Gx} {K : Kx} {q : Nat → Nat} {σ : Nat → Nat → Int} {nr : Nat} (hn : σ 0 9 = (nr : Int)) (hn16 : nr ≤ 16) (hR : RBF σ nr) (h2no : ∀ p q, p < q → q < nr → ¬ Two (rwf σ) p q) (h3no : N3 (rwf σ) (AllT nr)) {p1 p2 : Nat} (l1 : p1 < p2) (C : CX g K cX7_findBars RX7 1 3 93) {post : Option Value → (Nat → Nat → Int) → Prop} (T : RT g K (some .int) (fun u => WM g q u) post) (hT : ∀ (z : Int) (u : Nat → Nat → Int), FrB σ u → FB (rwf σ) nr z u → post (some (.int (iZ z))) u) (hk : ∀ τ : Nat → Nat → Int, FrB σ τ → τ 11 0 = (p1 : Int) → τ 11 1 = (p2 : Int) → (N4 (rwf σ) (Seen4 nr p1 p2 nr nr)) → GJ g K (WM g q τ) 345 [(0, .ref (q 0))] []) : ∀ (d p3 : Nat), p2 < p3 → p3 ≤ nr → nr < p3 + d → ∀ τ : Nat → Nat → Int, FrB σ τ → τ 11 0 = (p1 : Int) → τ 11 1 = (p2 : Int) → τ 11 2 = (p3 : Int) → (N4 (rwf σ) (Seen4 nr p1 p2 p3 (p3 + 1))) → GJ g K (WM g q τ) 270 [(0, .ref (q 0))] [] := by
  intro d
  induction d with
  | zero => intro p3 k0 k1 k2; omega
  | succ d ih =>
    intro p3 k0 k1 k2 τ hF v0 v1 v2 hI
    refine g_aload_n 0 C rfl dX7_findBars_270 rfl ?_
    refine gf_X7_45 C dX7_findBars_271 ?_
    refine g_iconst C dX7_findBars_274 ?_
    refine g_iald C 11 2 (by decide) (fun _ => rfl) (by omega) (by omega) (by decide) dX7_findBars_275 ?_
    rw [show τ 11 2 = (p3 : Int) from v2]
    refine g_aload_n 0 C rfl dX7_findBars_276 rfl ?_
    refine gf_X7_88 C dX7_findBars_277 ?_
    rw [show τ 0 9 = (nr : Int) from ((congrFun (hF 0 (by decide)) 9).trans hn)]
    refine g_icmp_ge 345 C (by unfold I32; omega) (by unfold I32; omega) dX7_findBars_280 (by decide) (fun h1 => ?_) (fun h1 => ?_)
    · obtain rfl : p3 = nr := by omega
      exact hk τ hF v0 v1 (fun p' q' r' s' h9 => hI p' q' r' s' (by unfold Seen4 at *; omega))
    · refine g_aload_n 0 C rfl dX7_findBars_283 rfl ?_
      refine gf_X7_45 C dX7_findBars_284 ?_
      refine g_iconst C dX7_findBars_287 ?_
      refine g_aload_n 0 C rfl dX7_findBars_288 rfl ?_
      refine gf_X7_45 C dX7_findBars_289 ?_
      refine g_iconst C dX7_findBars_292 ?_
      refine g_iald C 11 2 (by decide) (fun _ => rfl) (by omega) (by omega) (by decide) dX7_findBars_293 ?_
      rw [show τ 11 2 = (p3 : Int) from v2]
      refine g_iconst C dX7_findBars_294 ?_
      refine g_iadd C dX7_findBars_295 ?_
      refine g_iast C 11 3 (by decide) (fun _ => rfl) (by omega) (by omega) (by decide) dX7_findBars_296 ?_
      refine fb4_3 hn hn16 hR h2no h3no (by omega) (by omega) C T hT (fun τ2 hF2 x0 x1 x2 hI2 => ?_) (nr + 1) (p3 + 1) (by omega) (by omega) (by omega) _ hF.up ((up_k (by decide)).trans v0) ((up_k (by decide)).trans v1) ((up_k (by decide)).trans v2) (up_s _ _ _ _) (fun p' q' r' s' h9 => hI p' q' r' s' (by unfold Seen4 at *; omega))
      refine g_aload_n 0 C rfl dX7_findBars_332 rfl ?_
      refine gf_X7_45 C dX7_findBars_333 ?_
      refine g_iconst C dX7_findBars_336 ?_
      refine g_dup2 C dX7_findBars_337 rfl rfl ?_
      refine g_iald C 11 2 (by decide) (fun _ => rfl) (by omega) (by omega) (by decide) dX7_findBars_338 ?_
      rw [show τ2 11 2 = (p3 : Int) from x2]
      refine g_iconst C dX7_findBars_339 ?_
      refine g_iadd C dX7_findBars_340 ?_
      refine g_iast C 11 2 (by decide) (fun _ => rfl) (by omega) (by omega) (by decide) dX7_findBars_341 ?_
      refine g_goto 270 C dX7_findBars_342 (by decide) ?_
      exact ih (p3 + 1) (by omega) (by omega) (by omega) _ hF2.up ((up_k (by decide)).trans x0) ((up_k (by decide)).trans x1) (up_s _ _ _ _) (fun p' q' r' s' h9 => hI2 p' q' r' s' (by unfold Seen4 at *; omega))
set_option maxHeartbeats 4000000 in
set_option maxRecDepth 20000 in
theorem fb4_1 {g : Gx} {K : Kx} {q : Nat → Nat} {σ : Nat → Nat → Int} {nr : Nat} (hn : σ 0 9 = (nr : Int)) (hn16 : nr ≤ 16) (hR : RBF σ nr) (h2no : ∀ p q, p < q → q < nr → ¬ Two (rwf σ) p q) (h3no : N3 (rwf σ) (AllT nr)) {p1 : Nat}  (C : CX g K cX7_findBars RX7 1 3 93) {post : Option Value → (Nat → Nat → Int) → Prop} (T : RT g K (some .int) (fun u => WM g q u) post) (hT : ∀ (z : Int) (u : Nat → Nat → Int), FrB σ u → FB (rwf σ) nr z u → post (some (.int (iZ z))) u) (hk : ∀ τ : Nat → Nat → Int, FrB σ τ → τ 11 0 = (p1 : Int) → (N4 (rwf σ) (Seen4 nr p1 nr nr nr)) → GJ g K (WM g q τ) 358 [(0, .ref (q 0))] []) : ∀ (d p2 : Nat), p1 < p2 → p2 ≤ nr → nr < p2 + d → ∀ τ : Nat → Nat → Int, FrB σ τ → τ 11 0 = (p1 : Int) → τ 11 1 = (p2 : Int) → (N4 (rwf σ) (Seen4 nr p1 p2 (p2 + 1) ((p2 + 1) + 1))) → GJ g K (WM g q τ) 243 [(0, .ref (q 0))] [] := by
  intro d
  induction d with
  | zero => intro p2 k0 k1 k2; omega
  | succ d ih =>
    intro p2 k0 k1 k2 τ hF v0 v1 hI
    refine g_aload_n 0 C rfl dX7_findBars_243 rfl ?_
    refine gf_X7_45 C dX7_findBars_244 ?_
    refine g_iconst C dX7_findBars_247 ?_
    refine g_iald C 11 1 (by decide) (fun _ => rfl) (by omega) (by omega) (by decide) dX7_findBars_248 ?_
    rw [show τ 11 1 = (p2 : Int) from v1]
    refine g_aload_n 0 C rfl dX7_findBars_249 rfl ?_
    refine gf_X7_88 C dX7_findBars_250 ?_
    rw [show τ 0 9 = (nr : Int) from ((congrFun (hF 0 (by decide)) 9).trans hn)]
    refine g_icmp_ge 358 C (by unfold I32; omega) (by unfold I32; omega) dX7_findBars_253 (by decide) (fun h1 => ?_) (fun h1 => ?_)
    · obtain rfl : p2 = nr := by omega
      exact hk τ hF v0 (fun p' q' r' s' h9 => hI p' q' r' s' (by unfold Seen4 at *; omega))
    · refine g_aload_n 0 C rfl dX7_findBars_256 rfl ?_
      refine gf_X7_45 C dX7_findBars_257 ?_
      refine g_iconst C dX7_findBars_260 ?_
      refine g_aload_n 0 C rfl dX7_findBars_261 rfl ?_
      refine gf_X7_45 C dX7_findBars_262 ?_
      refine g_iconst C dX7_findBars_265 ?_
      refine g_iald C 11 1 (by decide) (fun _ => rfl) (by omega) (by omega) (by decide) dX7_findBars_266 ?_
      rw [show τ 11 1 = (p2 : Int) from v1]
      refine g_iconst C dX7_findBars_267 ?_
      refine g_iadd C dX7_findBars_268 ?_
      refine g_iast C 11 2 (by decide) (fun _ => rfl) (by omega) (by omega) (by decide) dX7_findBars_269 ?_
      refine fb4_2 hn hn16 hR h2no h3no (by omega) C T hT (fun τ2 hF2 x0 x1 hI2 => ?_) (nr + 1) (p2 + 1) (by omega) (by omega) (by omega) _ hF.up ((up_k (by decide)).trans v0) ((up_k (by decide)).trans v1) (up_s _ _ _ _) (fun p' q' r' s' h9 => hI p' q' r' s' (by unfold Seen4 at *; omega))
      refine g_aload_n 0 C rfl dX7_findBars_345 rfl ?_
      refine gf_X7_45 C dX7_findBars_346 ?_
      refine g_iconst C dX7_findBars_349 ?_
      refine g_dup2 C dX7_findBars_350 rfl rfl ?_
      refine g_iald C 11 1 (by decide) (fun _ => rfl) (by omega) (by omega) (by decide) dX7_findBars_351 ?_
      rw [show τ2 11 1 = (p2 : Int) from x1]
      refine g_iconst C dX7_findBars_352 ?_
      refine g_iadd C dX7_findBars_353 ?_
      refine g_iast C 11 1 (by decide) (fun _ => rfl) (by omega) (by omega) (by decide) dX7_findBars_354 ?_
      refine g_goto 243 C dX7_findBars_355 (by decide) ?_
      exact ih (p2 + 1) (by omega) (by omega) (by omega) _ hF2.up ((up_k (by decide)).trans x0) (up_s _ _ _ _) (fun p' q' r' s' h9 => hI2 p' q' r' s' (by unfold Seen4 at *; omega))
set_option maxHeartbeats 4000000 in
set_option maxRecDepth 20000 in
theorem fb4_0 {g : Gx} {K : Kx} {q : Nat → Nat} {σ : Nat → Nat → Int} {nr : Nat} (hn : σ 0 9 = (nr : Int)) (hn16 : nr ≤ 16) (hR : RBF σ nr) (h2no : ∀ p q, p < q → q < nr → ¬ Two (rwf σ) p q) (h3no : N3 (rwf σ) (AllT nr))  (C : CX g K cX7_findBars RX7 1 3 93) {post : Option Value → (Nat → Nat → Int) → Prop} (T : RT g K (some .int) (fun u => WM g q u) post) (hT : ∀ (z : Int) (u : Nat → Nat → Int), FrB σ u → FB (rwf σ) nr z u → post (some (.int (iZ z))) u) (hk : ∀ τ : Nat → Nat → Int, FrB σ τ → (N4 (rwf σ) (Seen4 nr nr nr nr nr)) → GJ g K (WM g q τ) 371 [(0, .ref (q 0))] []) : ∀ (d p1 : Nat), p1 ≤ nr → nr < p1 + d → ∀ τ : Nat → Nat → Int, FrB σ τ → τ 11 0 = (p1 : Int) → (N4 (rwf σ) (Seen4 nr p1 (p1 + 1) ((p1 + 1) + 1) (((p1 + 1) + 1) + 1))) → GJ g K (WM g q τ) 216 [(0, .ref (q 0))] [] := by
  intro d
  induction d with
  | zero => intro p1 k1 k2; omega
  | succ d ih =>
    intro p1 k1 k2 τ hF v0 hI
    refine g_aload_n 0 C rfl dX7_findBars_216 rfl ?_
    refine gf_X7_45 C dX7_findBars_217 ?_
    refine g_iconst C dX7_findBars_220 ?_
    refine g_iald C 11 0 (by decide) (fun _ => rfl) (by omega) (by omega) (by decide) dX7_findBars_221 ?_
    rw [show τ 11 0 = (p1 : Int) from v0]
    refine g_aload_n 0 C rfl dX7_findBars_222 rfl ?_
    refine gf_X7_88 C dX7_findBars_223 ?_
    rw [show τ 0 9 = (nr : Int) from ((congrFun (hF 0 (by decide)) 9).trans hn)]
    refine g_icmp_ge 371 C (by unfold I32; omega) (by unfold I32; omega) dX7_findBars_226 (by decide) (fun h1 => ?_) (fun h1 => ?_)
    · obtain rfl : p1 = nr := by omega
      exact hk τ hF  (fun p' q' r' s' h9 => hI p' q' r' s' (by unfold Seen4 at *; omega))
    · refine g_aload_n 0 C rfl dX7_findBars_229 rfl ?_
      refine gf_X7_45 C dX7_findBars_230 ?_
      refine g_iconst C dX7_findBars_233 ?_
      refine g_aload_n 0 C rfl dX7_findBars_234 rfl ?_
      refine gf_X7_45 C dX7_findBars_235 ?_
      refine g_iconst C dX7_findBars_238 ?_
      refine g_iald C 11 0 (by decide) (fun _ => rfl) (by omega) (by omega) (by decide) dX7_findBars_239 ?_
      rw [show τ 11 0 = (p1 : Int) from v0]
      refine g_iconst C dX7_findBars_240 ?_
      refine g_iadd C dX7_findBars_241 ?_
      refine g_iast C 11 1 (by decide) (fun _ => rfl) (by omega) (by omega) (by decide) dX7_findBars_242 ?_
      refine fb4_1 hn hn16 hR h2no h3no  C T hT (fun τ2 hF2 x0 hI2 => ?_) (nr + 1) (p1 + 1) (by omega) (by omega) (by omega) _ hF.up ((up_k (by decide)).trans v0) (up_s _ _ _ _) (fun p' q' r' s' h9 => hI p' q' r' s' (by unfold Seen4 at *; omega))
      refine g_aload_n 0 C rfl dX7_findBars_358 rfl ?_
      refine gf_X7_45 C dX7_findBars_359 ?_
      refine g_iconst C dX7_findBars_362 ?_
      refine g_dup2 C dX7_findBars_363 rfl rfl ?_
      refine g_iald C 11 0 (by decide) (fun _ => rfl) (by omega) (by omega) (by decide) dX7_findBars_364 ?_
      rw [show τ2 11 0 = (p1 : Int) from x0]
      refine g_iconst C dX7_findBars_365 ?_
      refine g_iadd C dX7_findBars_366 ?_
      refine g_iast C 11 0 (by decide) (fun _ => rfl) (by omega) (by omega) (by decide) dX7_findBars_367 ?_
      refine g_goto 216 C dX7_findBars_368 (by decide) ?_
      exact ih (p1 + 1) (by omega) (by omega) _ hF2.up  (up_s _ _ _ _) (fun p' q' r' s' h9 => hI2 p' q' r' s' (by unfold Seen4 at *; omega))
