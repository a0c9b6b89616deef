/-- the push, as lay keeps it -/
def lyP (σ : Nat → Nat → Int) : Nat → Nat → Int := up (up σ 11 1 (σ 24 0)) 11 2 (σ 24 1)
theorem lyP_c {σ : Nat → Nat → Int} {c : Nat} (h : c ≠ 11) : lyP σ c = σ c := by unfold lyP; rw [up_c h, up_c h]
theorem lyP_1 {σ : Nat → Nat → Int} : lyP σ 11 1 = σ 24 0 := by unfold lyP; rw [up_k (by decide), up_s]
theorem lyP_2 {σ : Nat → Nat → Int} : lyP σ 11 2 = σ 24 1 := by unfold lyP; rw [up_s]
def LY (σ : Nat → Nat → Int) (nn : Nat) (u : Nat → Nat → Int) : Prop := ∃ u1, SMx (lyP σ) (fun i j => 1 ≤ i ∧ i < j ∧ j ≤ nn) u1 ∧ QMx u1 (fun i => 1 ≤ i ∧ i ≤ nn) u
set_option maxHeartbeats 4000000 in
set_option maxRecDepth 20000 in
theorem c_X3_lay (g : Gx) {q : Nat → Nat} {σ : Nat → Nat → Int} {nn : Nat} (hn : σ 1 0 = (nn : Int)) (hn2 : 2 ≤ nn) (hn6 : nn ≤ 6) (hx : ∀ i, i ≤ nn → 0 ≤ σ 2 i ∧ σ 2 i ≤ 20) (hxi : ∀ i j, i < j → j ≤ nn → σ 2 i < σ 2 j) (hl : ∀ i, i ≤ nn → Bd (σ 3 i) 20 ∧ Bd (σ 4 i) 20) (hm : ∀ i, i ≤ nn → Bd (σ 6 i) 40000) (hpa : Bd (σ 24 0) 3200) (hpb : 0 < σ 24 1 ∧ σ 24 1 ≤ 1600000) : MC g yX3_lay cX3_lay 2 (none) 2 47 (WC g q σ) [.ref (q 11), .ref (q 24)] (fun u => WC g q u) (pV (fun u => LY σ nn u)) := by
  refine MC_intro (own := RX3) rfl (by decide) (Nat.le_of_ble_eq_true rfl) (fun K C T => ?_)
  show GJ g K (WC g q σ) 0 [(0, .ref (q 11)), (1, .ref (q 24))] []
  refine g_aload_n 0 C rfl dX3_lay_0 rfl ?_
  refine g_aload_n 1 C rfl dX3_lay_1 rfl ?_
  refine gf_X3_23 (Or.inl rfl) C dX3_lay_2 ?_
  refine pf_X3_28 C dX3_lay_5 ?_
  refine g_aload_n 0 C rfl dX3_lay_8 rfl ?_
  refine g_aload_n 1 C rfl dX3_lay_9 rfl ?_
  refine gf_X3_31 (Or.inl rfl) C dX3_lay_10 ?_
  rw [show (up σ 11 1 (σ 24 0)) 24 1 = σ 24 1 from rfl]
  refine pf_X3_7 C dX3_lay_13 ?_
  show GJ g K (WC g q (lyP σ)) 16 _ _
  refine g_aload_n 0 C rfl dX3_lay_16 rfl ?_
  refine g_callV C (c_X3_findLeastStart g (σ := lyP σ) (nn := nn) (by rw [lyP_c (by decide)]; exact hn) hn2 hn6 (by rw [lyP_c (by decide)]; exact hx) (by rw [lyP_c (by decide)]; exact hxi) (by rw [lyP_c (by decide), lyP_c (by decide)]; exact hl) (by rw [lyP_c (by decide)]; exact hm) (by rw [lyP_1]; exact hpa) (by rw [lyP_2]; exact hpb)) gv_X3_34 yd_X3_findLeastStart ⟨by decide, by decide⟩ 11 3 (WD_get (by decide)) rfl rfl (Nat.le_of_ble_eq_true rfl) dX3_lay_17 ?_
  intro u1 hs
  refine g_aload_n 0 C rfl dX3_lay_20 rfl ?_
  refine g_callV C (c_X3_findLeastSlope g (σ := u1) (nn := nn) (by rw [hs.1.1 1 (by decide), lyP_c (by decide)]; exact hn) hn2 hn6 (by rw [hs.1.1 2 (by decide), lyP_c (by decide)]; exact hx) (by rw [hs.1.1 2 (by decide), lyP_c (by decide)]; exact hxi) (by rw [hs.1.1 3 (by decide), hs.1.1 4 (by decide), lyP_c (by decide), lyP_c (by decide)]; exact hl) (by rw [hs.1.1 6 (by decide), lyP_c (by decide)]; exact hm) (by rw [hs.1.2 1 (by decide) (by decide), lyP_1]; exact hpa) (by rw [hs.1.2 2 (by decide) (by decide), lyP_2]; exact hpb) hs.2.1.1 hs.2.1.2) gv_X3_37 yd_X3_findLeastSlope ⟨by decide, by decide⟩ 11 3 (WD_get (by decide)) rfl rfl (Nat.le_of_ble_eq_true rfl) dX3_lay_21 ?_
  intro u hq
  refine g_vret (u := u) C T dX3_lay_24 ?_
  exact ⟨rfl, u1, hs, hq⟩
def hiA (σ : Nat → Nat → Int) (i : Nat) : Int := σ 11 3 * σ 11 6 + σ 11 5 * σ 2 i + σ 6 i * σ 11 1 * σ 11 4 * σ 11 6
def hiB (σ : Nat → Nat → Int) : Int := σ 11 2 * σ 11 4 * σ 11 6
set_option maxHeartbeats 4000000 in
set_option maxRecDepth 20000 in
theorem c_X3_heightInto (g : Gx) {q : Nat → Nat} {σ : Nat → Nat → Int} {nn : Nat} (hn6 : nn ≤ 6) (hx : ∀ i, i ≤ nn → 0 ≤ σ 2 i ∧ σ 2 i ≤ 20) (hm : ∀ i, i ≤ nn → Bd (σ 6 i) 40000) (hpa : Bd (σ 11 1) 3200) (hpb : 0 < σ 11 2 ∧ σ 11 2 ≤ 1600000) (hsa : Bd (σ 11 3) 6400000000) (hsb : 0 < σ 11 4 ∧ σ 11 4 ≤ 20) (hqa : Bd (σ 11 5) 9600000000) (hqb : 0 < σ 11 6 ∧ σ 11 6 ≤ 20) {i : Nat} (hi : i ≤ nn) : MC g yX3_heightInto cX3_heightInto 7 (none) 2 52 (WC g q σ) [.ref (q 11), .ref (q 24), .int (iZ (i : Int))] (fun u => WC g q u) (pV (fun u => u = redP σ 24 (hiA σ i) (hiB σ))) := by
  refine MC_intro (own := RX3) rfl (by decide) (Nat.le_of_ble_eq_true rfl) (fun K C T => ?_)
  show GJ g K (WC g q σ) 0 [(0, .ref (q 11)), (1, .ref (q 24)), (2, .int (iZ (i : Int)))] []
  refine g_aload_n 0 C rfl dX3_heightInto_0 rfl ?_
  refine gf_X3_44 C dX3_heightInto_1 ?_
  refine g_aload_n 0 C rfl dX3_heightInto_4 rfl ?_
  refine gf_X3_16 C dX3_heightInto_5 ?_
  refine g_lmul C dX3_heightInto_8 ?_
  refine g_aload_n 0 C rfl dX3_heightInto_9 rfl ?_
  refine gf_X3_60 C dX3_heightInto_10 ?_
  refine g_aload_n 0 C rfl dX3_heightInto_13 rfl ?_
  refine gf_X3_19 C dX3_heightInto_14 ?_
  refine gf_X3_53 C dX3_heightInto_17 ?_
  refine g_iload_n 2 C rfl dX3_heightInto_20 rfl ?_
  refine g_iald C 2 i (by decide) (fun _ => rfl) (by omega) (by omega) (by decide) dX3_heightInto_21 ?_
  refine g_i2l C dX3_heightInto_22 (by have h9 := hx i hi; unfold I32; omega) ?_
  refine g_lmul C dX3_heightInto_23 ?_
  refine g_ladd C dX3_heightInto_24 ?_
  refine g_lname (fun w1 ew1 => ?_)
  refine g_lstore_n (lv' := [(0, .ref (q 11)), (1, .ref (q 24)), (2, .int (iZ (i : Int))), (3, .long (lZ w1))]) [1, 2, 3, 0] C dX3_heightInto_25 rfl (by decide) rfl ?_
  refine g_aload_n 0 C rfl dX3_heightInto_26 rfl ?_
  refine gf_X3_19 C dX3_heightInto_27 ?_
  refine gf_X3_67 C dX3_heightInto_30 ?_
  refine g_iload_n 2 C rfl dX3_heightInto_33 rfl ?_
  refine g_iald C 6 i (by decide) (fun _ => rfl) (by omega) (by omega) (by decide) dX3_heightInto_34 ?_
  refine g_i2l C dX3_heightInto_35 ((hm i hi).I32 (by decide)) ?_
  refine g_aload_n 0 C rfl dX3_heightInto_36 rfl ?_
  refine gf_X3_28 C dX3_heightInto_37 ?_
  refine g_lmul C dX3_heightInto_40 ?_
  refine g_aload_n 0 C rfl dX3_heightInto_41 rfl ?_
  refine gf_X3_13 C dX3_heightInto_42 ?_
  refine g_lmul C dX3_heightInto_45 ?_
  refine g_aload_n 0 C rfl dX3_heightInto_46 rfl ?_
  refine gf_X3_16 C dX3_heightInto_47 ?_
  refine g_lmul C dX3_heightInto_50 ?_
  refine g_lname (fun w2 ew2 => ?_)
  refine g_lstore (lv' := [(0, .ref (q 11)), (1, .ref (q 24)), (2, .int (iZ (i : Int))), (3, .long (lZ w1)), (5, .long (lZ w2))]) [1, 2, 3, 4, 0] C dX3_heightInto_51 (by decide) rfl ?_
  refine g_aload_n 1 C rfl dX3_heightInto_53 rfl ?_
  refine g_lload_n 3 C rfl dX3_heightInto_54 rfl ?_
  refine g_lload 4 C rfl dX3_heightInto_55 ?_
  refine g_ladd C dX3_heightInto_57 ?_
  refine g_aload_n 0 C rfl dX3_heightInto_58 rfl ?_
  refine gf_X3_7 C dX3_heightInto_59 ?_
  refine g_aload_n 0 C rfl dX3_heightInto_62 rfl ?_
  refine gf_X3_13 C dX3_heightInto_63 ?_
  refine g_lmul C dX3_heightInto_66 ?_
  refine g_aload_n 0 C rfl dX3_heightInto_67 rfl ?_
  refine gf_X3_16 C dX3_heightInto_68 ?_
  refine g_lmul C dX3_heightInto_71 ?_
  have hA : w1 + w2 = hiA σ i := by rw [ew1, ew2]; rfl
  rw [hA]
  have b1 : Bd (hiA σ i) 400000000000 := by
    exact (Bd.add (Bd.add (Bd.mul hsa (show Bd (σ 11 6) 20 from ⟨by omega, hqb.2⟩)) (Bd.mul hqa (show Bd (σ 2 i) 20 from ⟨by have := hx i hi; omega, (hx i hi).2⟩))) (Bd.mul (Bd.mul (Bd.mul (hm i hi) hpa) (show Bd (σ 11 4) 20 from ⟨by omega, hsb.2⟩)) (show Bd (σ 11 6) 20 from ⟨by omega, hqb.2⟩))).mono (by decide)
  have b2 : 0 < hiB σ := Int.mul_pos (Int.mul_pos hpb.1 hsb.1) hqb.1
  have b3 : Bd (hiB σ) 640000000 := (Bd.mul (Bd.mul (show Bd (σ 11 2) 1600000 from ⟨by omega, hpb.2⟩) (show Bd (σ 11 4) 20 from ⟨by omega, hsb.2⟩)) (show Bd (σ 11 6) 20 from ⟨by omega, hqb.2⟩)).mono (by decide)
  obtain ⟨b4, b5⟩ := b1
  obtain ⟨b6, b7⟩ := b3
  refine g_callV C (c_X2_become g (σ := σ) (c := 24) (Or.inl rfl) (A := hiA σ i) (B := hiB σ) ⟨by omega, by omega⟩ b2 (by omega)) gv_X3_70 yd_X2_become ⟨by decide, by decide⟩ 24 2 (WD_get (by decide)) rfl rfl (Nat.le_of_ble_eq_true rfl) dX3_heightInto_72 ?_
  rintro _ rfl
  refine g_vret (u := (redP σ 24 (hiA σ i) (hiB σ))) C T dX3_heightInto_75 ?_
  exact ⟨rfl, rfl⟩
def kpS (σ : Nat → Nat → Int) (od p q r : Nat) : Nat → Nat → Int := up (up (up σ 13 0 (2 * (p : Int) + (od : Int))) 13 1 (2 * (q : Int) + 1 - (od : Int))) 13 2 (2 * (r : Int) + (od : Int))
def Bey (σ : Nat → Nat → Int) (od p q r : Nat) : Prop := (od = 0 ∧ rs (σ 2) (σ 4) (σ 3) p q r < 0) ∨ (od ≠ 0 ∧ 0 < rs (σ 2) (σ 3) (σ 4) p q r)
def crS (σ : Nat → Nat → Int) (en tu p q r s : Nat) : Int := rs (σ 2) (σ 6) (σ 6) q r s * σ en p - rs (σ 2) (σ 6) (σ 6) p r s * σ tu q + rs (σ 2) (σ 6) (σ 6) p q s * σ en r - rs (σ 2) (σ 6) (σ 6) p q r * σ tu s
def Crs (σ : Nat → Nat → Int) (od p q r s : Nat) : Prop := (od = 0 ∧ 0 < crS σ 3 4 p q r s) ∨ (od ≠ 0 ∧ crS σ 4 3 p q r s < 0)
def B3 (σ : Nat → Nat → Int) (od p q r : Nat) : Prop := rs (σ 2) (σ 6) (σ 6) p q r = 0 ∧ Bey σ od p q r
theorem rs_B {x a b : Nat → Int} {n : Nat} (hx : ∀ i, i ≤ n → 0 ≤ x i ∧ x i ≤ 20) (ha : ∀ i, i ≤ n → Bd (a i) 40000) (hb : ∀ i, i ≤ n → Bd (b i) 40000) {i j r : Nat} (hi : i ≤ n) (hj : j ≤ n) (hr : r ≤ n) : Bd (rs x a b i j r) 2400000 := by
  have h := rs_bd hx ha hb hi hj hr
  exact (Bd.sub h.2 h.1).mono (by decide)
theorem crS_B {σ : Nat → Nat → Int} {n en tu : Nat} (hx : ∀ i, i ≤ n → 0 ≤ σ 2 i ∧ σ 2 i ≤ 20) (hm : ∀ i, i ≤ n → Bd (σ 6 i) 40000) (h1 : ∀ i, i ≤ n → Bd (σ en i) 20) (h2 : ∀ i, i ≤ n → Bd (σ tu i) 20) {p q r s : Nat} (hp : p ≤ n) (hq : q ≤ n) (hr : r ≤ n) (hs : s ≤ n) : Bd (crS σ en tu p q r s) 192000000 := by
  unfold crS
  exact (Bd.sub (Bd.add (Bd.sub ((rs_B hx hm hm hq hr hs).mul (h1 p hp)) ((rs_B hx hm hm hp hr hs).mul (h2 q hq))) ((rs_B hx hm hm hp hq hs).mul (h1 r hr))) ((rs_B hx hm hm hp hq hr).mul (h2 s hs))).mono (by decide)
set_option maxHeartbeats 4000000 in
set_option maxRecDepth 20000 in
theorem c_X1_keep (g : Gx) {q : Nat → Nat} {σ : Nat → Nat → Int} {od p q2 r : Nat} : MC g yX1_keep cX1_keep 5 (none) 0 0 (WC g q σ) [.ref (q 12), .int (iZ (od : Int)), .int (iZ (p : Int)), .int (iZ (q2 : Int)), .int (iZ (r : Int))] (fun u => WC g q u) (pV (fun u => u = kpS σ od p q2 r)) := by
  refine MC_intro (own := RX1) rfl (by decide) (Nat.le_of_ble_eq_true rfl) (fun K C T => ?_)
  show GJ g K (WC g q σ) 0 [(0, .ref (q 12)), (1, .int (iZ (od : Int))), (2, .int (iZ (p : Int))), (3, .int (iZ (q2 : Int))), (4, .int (iZ (r : Int)))] []
  refine g_aload_n 0 C rfl dX1_keep_0 rfl ?_
  refine gf_X1_9 C dX1_keep_1 ?_
  refine g_iconst C dX1_keep_4 ?_
  refine g_iconst C dX1_keep_5 ?_
  refine g_iload_n 2 C rfl dX1_keep_6 rfl ?_
  refine g_imul C dX1_keep_7 ?_
  refine g_iload_n 1 C rfl dX1_keep_8 rfl ?_
  refine g_iadd C dX1_keep_9 ?_
  refine g_iast C 13 0 (by decide) (fun _ => rfl) (by omega) (by omega) (by decide) dX1_keep_10 ?_
  refine g_aload_n 0 C rfl dX1_keep_11 rfl ?_
  refine gf_X1_9 C dX1_keep_12 ?_
  refine g_iconst C dX1_keep_15 ?_
  refine g_iconst C dX1_keep_16 ?_
  refine g_iload_n 3 C rfl dX1_keep_17 rfl ?_
  refine g_imul C dX1_keep_18 ?_
  refine g_iconst C dX1_keep_19 ?_
  refine g_iadd C dX1_keep_20 ?_
  refine g_iload_n 1 C rfl dX1_keep_21 rfl ?_
  refine g_isub C dX1_keep_22 ?_
  refine g_iast C 13 1 (by decide) (fun _ => rfl) (by omega) (by omega) (by decide) dX1_keep_23 ?_
  refine g_aload_n 0 C rfl dX1_keep_24 rfl ?_
  refine gf_X1_9 C dX1_keep_25 ?_
  refine g_iconst C dX1_keep_28 ?_
  refine g_iconst C dX1_keep_29 ?_
  refine g_iload 4 C rfl dX1_keep_30 ?_
  refine g_imul C dX1_keep_32 ?_
  refine g_iload_n 1 C rfl dX1_keep_33 rfl ?_
  refine g_iadd C dX1_keep_34 ?_
  refine g_iast C 13 2 (by decide) (fun _ => rfl) (by omega) (by omega) (by decide) dX1_keep_35 ?_
  refine g_vret (u := (up (up (up σ 13 0 ((2 * (p : Int)) + (od : Int))) 13 1 (((2 * (q2 : Int)) + 1) - (od : Int))) 13 2 ((2 * (r : Int)) + (od : Int)))) C T dX1_keep_36 ?_
  exact ⟨rfl, rfl⟩
set_option maxHeartbeats 4000000 in
set_option maxRecDepth 20000 in
theorem c_X1_isBeyondChord (g : Gx) {q : Nat → Nat} {σ : Nat → Nat → Int} {nn : Nat} (hn : σ 1 0 = (nn : Int)) (hn2 : 2 ≤ nn) (hn6 : nn ≤ 6) (hx : ∀ i, i ≤ nn → 0 ≤ σ 2 i ∧ σ 2 i ≤ 20) (hl : ∀ i, i ≤ nn → Bd (σ 3 i) 20 ∧ Bd (σ 4 i) 20) (hm : ∀ i, i ≤ nn → Bd (σ 6 i) 40000) {od : Nat} (hod : od < 2) {p q2 r : Nat} (hp : p ≤ nn) (hq2 : q2 ≤ nn) (hr : r ≤ nn) : MC g yX1_isBeyondChord cX1_isBeyondChord 5 ((some .boolean)) 1 27 (WC g q σ) [.ref (q 12), .int (iZ (od : Int)), .int (iZ (p : Int)), .int (iZ (q2 : Int)), .int (iZ (r : Int))] (fun _ : Unit => WC g q σ) (pI (fun z _ => z = bZ (Bey σ od p q2 r))) := by
  refine MC_intro (own := RX1) rfl (by decide) (Nat.le_of_ble_eq_true rfl) (fun K C T => ?_)
  show GJ g K (WC g q σ) 0 [(0, .ref (q 12)), (1, .int (iZ (od : Int))), (2, .int (iZ (p : Int))), (3, .int (iZ (q2 : Int))), (4, .int (iZ (r : Int)))] []
  refine g_iload_n 1 C rfl dX1_isBeyondChord_0 rfl ?_
  refine g_if_ne 40 C (by unfold I32; omega) dX1_isBeyondChord_1 (by decide) (fun h1 => ?_) (fun h1 => ?_)
  · refine g_aload_n 0 C rfl dX1_isBeyondChord_40 rfl ?_
    refine gf_X1_15 C dX1_isBeyondChord_41 ?_
    refine g_aload_n 0 C rfl dX1_isBeyondChord_44 rfl ?_
    refine gf_X1_15 C dX1_isBeyondChord_45 ?_
    refine gf_X1_57 C dX1_isBeyondChord_48 ?_
    refine g_aload_n 0 C rfl dX1_isBeyondChord_51 rfl ?_
    refine gf_X1_15 C dX1_isBeyondChord_52 ?_
    refine gf_X1_54 C dX1_isBeyondChord_55 ?_
    refine g_iload_n 2 C rfl dX1_isBeyondChord_58 rfl ?_
    refine g_iload_n 3 C rfl dX1_isBeyondChord_59 rfl ?_
    refine g_iload 4 C rfl dX1_isBeyondChord_60 ?_
    refine g_callL C (c_X0_rise g (σ := σ) (nn := nn) hn6 hx (ka := 3) (kb := 4) (by decide) (by decide) (fun i hi => (hl i hi).1.mono (by decide)) (fun i hi => (hl i hi).2.mono (by decide)) (i := p) (j := q2) (r := r) (by omega) (by omega) (by omega)) gv_X1_60 yd_X0_rise ⟨by decide, by decide⟩ 1 0 (WD_get (by decide)) rfl rfl (Nat.le_of_ble_eq_true rfl) dX1_isBeyondChord_62 ?_
    rintro _ _ rfl
    refine g_lconst 0 C dX1_isBeyondChord_65 (by decide) ?_
    refine g_lcmp_le 74 C ((rs_B hx (fun i hi => (hl i hi).1.mono (by decide)) (fun i hi => (hl i hi).2.mono (by decide)) (i := p) (j := q2) (r := r) (by omega) (by omega) (by omega)).I (by decide)) (by unfold I64; omega) dX1_isBeyondChord_66 dX1_isBeyondChord_67 (by decide) (fun h2 => ?_) (fun h2 => ?_)
    · refine g_iconst C dX1_isBeyondChord_74 ?_
      refine g_zret (u := ()) C T dX1_isBeyondChord_75 (by omega) ?_
      exact ⟨_, rfl, (bZ_f (by unfold Bey; omega)).symm⟩
    · refine g_iconst C dX1_isBeyondChord_70 ?_
      refine g_goto 75 C dX1_isBeyondChord_71 (by decide) ?_
      refine g_zret (u := ()) C T dX1_isBeyondChord_75 (by omega) ?_
      exact ⟨_, rfl, (bZ_t (by unfold Bey; omega)).symm⟩
  · refine g_aload_n 0 C rfl dX1_isBeyondChord_4 rfl ?_
    refine gf_X1_15 C dX1_isBeyondChord_5 ?_
    refine g_aload_n 0 C rfl dX1_isBeyondChord_8 rfl ?_
    refine gf_X1_15 C dX1_isBeyondChord_9 ?_
    refine gf_X1_54 C dX1_isBeyondChord_12 ?_
    refine g_aload_n 0 C rfl dX1_isBeyondChord_15 rfl ?_
    refine gf_X1_15 C dX1_isBeyondChord_16 ?_
    refine gf_X1_57 C dX1_isBeyondChord_19 ?_
    refine g_iload_n 2 C rfl dX1_isBeyondChord_22 rfl ?_
    refine g_iload_n 3 C rfl dX1_isBeyondChord_23 rfl ?_
    refine g_iload 4 C rfl dX1_isBeyondChord_24 ?_
    refine g_callL C (c_X0_rise g (σ := σ) (nn := nn) hn6 hx (ka := 4) (kb := 3) (by decide) (by decide) (fun i hi => (hl i hi).2.mono (by decide)) (fun i hi => (hl i hi).1.mono (by decide)) (i := p) (j := q2) (r := r) (by omega) (by omega) (by omega)) gv_X1_60 yd_X0_rise ⟨by decide, by decide⟩ 1 0 (WD_get (by decide)) rfl rfl (Nat.le_of_ble_eq_true rfl) dX1_isBeyondChord_26 ?_
    rintro _ _ rfl
    refine g_lconst 0 C dX1_isBeyondChord_29 (by decide) ?_
    refine g_lcmp_ge 38 C ((rs_B hx (fun i hi => (hl i hi).2.mono (by decide)) (fun i hi => (hl i hi).1.mono (by decide)) (i := p) (j := q2) (r := r) (by omega) (by omega) (by omega)).I (by decide)) (by unfold I64; omega) dX1_isBeyondChord_30 dX1_isBeyondChord_31 (by decide) (fun h3 => ?_) (fun h3 => ?_)
    · refine g_iconst C dX1_isBeyondChord_38 ?_
      refine g_zret (u := ()) C T dX1_isBeyondChord_39 (by omega) ?_
      exact ⟨_, rfl, (bZ_f (by unfold Bey; omega)).symm⟩
    · refine g_iconst C dX1_isBeyondChord_34 ?_
      refine g_goto 39 C dX1_isBeyondChord_35 (by decide) ?_
      refine g_zret (u := ()) C T dX1_isBeyondChord_39 (by omega) ?_
      exact ⟨_, rfl, (bZ_t (by unfold Bey; omega)).symm⟩
set_option maxHeartbeats 4000000 in
set_option maxRecDepth 20000 in
theorem c_X1_isCrossed (g : Gx) {q : Nat → Nat} {σ : Nat → Nat → Int} {nn : Nat} (hn : σ 1 0 = (nn : Int)) (hn2 : 2 ≤ nn) (hn6 : nn ≤ 6) (hx : ∀ i, i ≤ nn → 0 ≤ σ 2 i ∧ σ 2 i ≤ 20) (hl : ∀ i, i ≤ nn → Bd (σ 3 i) 20 ∧ Bd (σ 4 i) 20) (hm : ∀ i, i ≤ nn → Bd (σ 6 i) 40000) {od : Nat} (hod : od < 2) {p q2 r : Nat} (hp : p ≤ nn) (hq2 : q2 ≤ nn) (hr : r ≤ nn) {s : Nat} (hs : s ≤ nn) : MC g yX1_isCrossed cX1_isCrossed 10 ((some .boolean)) 2 50 (WC g q σ) [.ref (q 12), .int (iZ (od : Int)), .int (iZ (p : Int)), .int (iZ (q2 : Int)), .int (iZ (r : Int)), .int (iZ (s : Int))] (fun _ : Unit => WC g q σ) (pI (fun z _ => z = bZ (Crs σ od p q2 r s))) := by
  refine MC_intro (own := RX1) rfl (by decide) (Nat.le_of_ble_eq_true rfl) (fun K C T => ?_)
  show GJ g K (WC g q σ) 0 [(0, .ref (q 12)), (1, .int (iZ (od : Int))), (2, .int (iZ (p : Int))), (3, .int (iZ (q2 : Int))), (4, .int (iZ (r : Int))), (5, .int (iZ (s : Int)))] []
  refine g_iload_n 1 C rfl dX1_isCrossed_0 rfl ?_
  refine g_if_ne 14 C (by unfold I32; omega) dX1_isCrossed_1 (by decide) (fun h1 => ?_) (fun h1 => ?_)
  · refine g_aload_n 0 C rfl dX1_isCrossed_14 rfl ?_
    refine gf_X1_15 C dX1_isCrossed_15 ?_
    refine gf_X1_54 C dX1_isCrossed_18 ?_
    refine g_astore (lv' := [(0, .ref (q 12)), (1, .int (iZ (od : Int))), (2, .int (iZ (p : Int))), (3, .int (iZ (q2 : Int))), (4, .int (iZ (r : Int))), (5, .int (iZ (s : Int))), (6, .ref (q 4))]) [1, 2, 3, 4, 5, 6, 0] C dX1_isCrossed_21 (by decide) rfl ?_
    refine g_iload_n 1 C rfl dX1_isCrossed_23 rfl ?_
    refine g_if_ne 37 C (by unfold I32; omega) dX1_isCrossed_24 (by decide) (fun h2 => ?_) (fun h2 => ?_)
    · refine g_aload_n 0 C rfl dX1_isCrossed_37 rfl ?_
      refine gf_X1_15 C dX1_isCrossed_38 ?_
      refine gf_X1_57 C dX1_isCrossed_41 ?_
      refine g_astore (lv' := [(0, .ref (q 12)), (1, .int (iZ (od : Int))), (2, .int (iZ (p : Int))), (3, .int (iZ (q2 : Int))), (4, .int (iZ (r : Int))), (5, .int (iZ (s : Int))), (6, .ref (q 4)), (7, .ref (q 3))]) [1, 2, 3, 4, 5, 6, 7, 0] C dX1_isCrossed_44 (by decide) rfl ?_
      refine g_aload_n 0 C rfl dX1_isCrossed_46 rfl ?_
      refine gf_X1_15 C dX1_isCrossed_47 ?_
      refine g_iload_n 3 C rfl dX1_isCrossed_50 rfl ?_
      refine g_iload 4 C rfl dX1_isCrossed_51 ?_
      refine g_iload 5 C rfl dX1_isCrossed_53 ?_
      refine g_callL C (c_X0_bend g (σ := σ) (nn := nn) hn6 hx hm (i := q2) (j := r) (r := s) (by omega) (by omega) (by omega)) gv_X1_39 yd_X0_bend ⟨by decide, by decide⟩ 1 0 (WD_get (by decide)) rfl rfl (Nat.le_of_ble_eq_true rfl) dX1_isCrossed_55 ?_
      rintro _ _ rfl
      refine g_aload 6 C rfl dX1_isCrossed_58 ?_
      refine g_iload_n 2 C rfl dX1_isCrossed_60 rfl ?_
      refine g_iald C 4 p (by decide) (fun _ => rfl) (by omega) (by omega) (by decide) dX1_isCrossed_61 ?_
      refine g_i2l C dX1_isCrossed_62 ((hl p (by omega)).2.I32 (by decide)) ?_
      refine g_lmul C dX1_isCrossed_63 ?_
      refine g_aload_n 0 C rfl dX1_isCrossed_64 rfl ?_
      refine gf_X1_15 C dX1_isCrossed_65 ?_
      refine g_iload_n 2 C rfl dX1_isCrossed_68 rfl ?_
      refine g_iload 4 C rfl dX1_isCrossed_69 ?_
      refine g_iload 5 C rfl dX1_isCrossed_71 ?_
      refine g_callL C (c_X0_bend g (σ := σ) (nn := nn) hn6 hx hm (i := p) (j := r) (r := s) (by omega) (by omega) (by omega)) gv_X1_39 yd_X0_bend ⟨by decide, by decide⟩ 1 0 (WD_get (by decide)) rfl rfl (Nat.le_of_ble_eq_true rfl) dX1_isCrossed_73 ?_
      rintro _ _ rfl
      refine g_aload 7 C rfl dX1_isCrossed_76 ?_
      refine g_iload_n 3 C rfl dX1_isCrossed_78 rfl ?_
      refine g_iald C 3 q2 (by decide) (fun _ => rfl) (by omega) (by omega) (by decide) dX1_isCrossed_79 ?_
      refine g_i2l C dX1_isCrossed_80 ((hl q2 (by omega)).1.I32 (by decide)) ?_
      refine g_lmul C dX1_isCrossed_81 ?_
      refine g_lsub C dX1_isCrossed_82 ?_
      refine g_aload_n 0 C rfl dX1_isCrossed_83 rfl ?_
      refine gf_X1_15 C dX1_isCrossed_84 ?_
      refine g_iload_n 2 C rfl dX1_isCrossed_87 rfl ?_
      refine g_iload_n 3 C rfl dX1_isCrossed_88 rfl ?_
      refine g_iload 5 C rfl dX1_isCrossed_89 ?_
      refine g_callL C (c_X0_bend g (σ := σ) (nn := nn) hn6 hx hm (i := p) (j := q2) (r := s) (by omega) (by omega) (by omega)) gv_X1_39 yd_X0_bend ⟨by decide, by decide⟩ 1 0 (WD_get (by decide)) rfl rfl (Nat.le_of_ble_eq_true rfl) dX1_isCrossed_91 ?_
      rintro _ _ rfl
      refine g_aload 6 C rfl dX1_isCrossed_94 ?_
      refine g_iload 4 C rfl dX1_isCrossed_96 ?_
      refine g_iald C 4 r (by decide) (fun _ => rfl) (by omega) (by omega) (by decide) dX1_isCrossed_98 ?_
      refine g_i2l C dX1_isCrossed_99 ((hl r (by omega)).2.I32 (by decide)) ?_
      refine g_lmul C dX1_isCrossed_100 ?_
      refine g_ladd C dX1_isCrossed_101 ?_
      refine g_aload_n 0 C rfl dX1_isCrossed_102 rfl ?_
      refine gf_X1_15 C dX1_isCrossed_103 ?_
      refine g_iload_n 2 C rfl dX1_isCrossed_106 rfl ?_
      refine g_iload_n 3 C rfl dX1_isCrossed_107 rfl ?_
      refine g_iload 4 C rfl dX1_isCrossed_108 ?_
      refine g_callL C (c_X0_bend g (σ := σ) (nn := nn) hn6 hx hm (i := p) (j := q2) (r := r) (by omega) (by omega) (by omega)) gv_X1_39 yd_X0_bend ⟨by decide, by decide⟩ 1 0 (WD_get (by decide)) rfl rfl (Nat.le_of_ble_eq_true rfl) dX1_isCrossed_110 ?_
      rintro _ _ rfl
      refine g_aload 7 C rfl dX1_isCrossed_113 ?_
      refine g_iload 5 C rfl dX1_isCrossed_115 ?_
      refine g_iald C 3 s (by decide) (fun _ => rfl) (by omega) (by omega) (by decide) dX1_isCrossed_117 ?_
      refine g_i2l C dX1_isCrossed_118 ((hl s (by omega)).1.I32 (by decide)) ?_
      refine g_lmul C dX1_isCrossed_119 ?_
      refine g_lsub C dX1_isCrossed_120 ?_
      refine g_lname (fun w3 ew3 => ?_)
      refine g_lstore (lv' := [(0, .ref (q 12)), (1, .int (iZ (od : Int))), (2, .int (iZ (p : Int))), (3, .int (iZ (q2 : Int))), (4, .int (iZ (r : Int))), (5, .int (iZ (s : Int))), (6, .ref (q 4)), (7, .ref (q 3)), (8, .long (lZ w3))]) [1, 2, 3, 4, 5, 6, 7, 8, 0] C dX1_isCrossed_121 (by decide) rfl ?_
      have eS : w3 = crS σ 4 3 p q2 r s := ew3
      have hwI : I64 w3 := by rw [eS]; exact (crS_B hx hm (fun i hi => (hl i hi).2) (fun i hi => (hl i hi).1) hp hq2 hr hs).I (by decide)
      refine g_iload_n 1 C rfl dX1_isCrossed_123 rfl ?_
      refine g_if_ne 142 C (by unfold I32; omega) dX1_isCrossed_124 (by decide) (fun h4 => ?_) (fun h4 => ?_)
      · refine g_lload 8 C rfl dX1_isCrossed_142 ?_
        refine g_lconst 0 C dX1_isCrossed_144 (by decide) ?_
        refine g_lcmp_ge 153 C (hwI) (by unfold I64; omega) dX1_isCrossed_145 dX1_isCrossed_146 (by decide) (fun h5 => ?_) (fun h5 => ?_)
        · refine g_iconst C dX1_isCrossed_153 ?_
          refine g_zret (u := ()) C T dX1_isCrossed_154 (by omega) ?_
          exact ⟨_, rfl, (bZ_f (by unfold Crs; omega)).symm⟩
        · refine g_iconst C dX1_isCrossed_149 ?_
          refine g_goto 154 C dX1_isCrossed_150 (by decide) ?_
          refine g_zret (u := ()) C T dX1_isCrossed_154 (by omega) ?_
          exact ⟨_, rfl, (bZ_t (by unfold Crs; omega)).symm⟩
      · exact absurd h4 (by first | decide | omega)
    · exact absurd h2 (by first | decide | omega)
  · refine g_aload_n 0 C rfl dX1_isCrossed_4 rfl ?_
    refine gf_X1_15 C dX1_isCrossed_5 ?_
    refine gf_X1_57 C dX1_isCrossed_8 ?_
    refine g_goto 21 C dX1_isCrossed_11 (by decide) ?_
    refine g_astore (lv' := [(0, .ref (q 12)), (1, .int (iZ (od : Int))), (2, .int (iZ (p : Int))), (3, .int (iZ (q2 : Int))), (4, .int (iZ (r : Int))), (5, .int (iZ (s : Int))), (6, .ref (q 3))]) [1, 2, 3, 4, 5, 6, 0] C dX1_isCrossed_21 (by decide) rfl ?_
    refine g_iload_n 1 C rfl dX1_isCrossed_23 rfl ?_
    refine g_if_ne 37 C (by unfold I32; omega) dX1_isCrossed_24 (by decide) (fun h6 => ?_) (fun h6 => ?_)
    · exact absurd h6 (by first | decide | omega)
    refine g_aload_n 0 C rfl dX1_isCrossed_27 rfl ?_
    refine gf_X1_15 C dX1_isCrossed_28 ?_
    refine gf_X1_54 C dX1_isCrossed_31 ?_
    refine g_goto 44 C dX1_isCrossed_34 (by decide) ?_
    refine g_astore (lv' := [(0, .ref (q 12)), (1, .int (iZ (od : Int))), (2, .int (iZ (p : Int))), (3, .int (iZ (q2 : Int))), (4, .int (iZ (r : Int))), (5, .int (iZ (s : Int))), (6, .ref (q 3)), (7, .ref (q 4))]) [1, 2, 3, 4, 5, 6, 7, 0] C dX1_isCrossed_44 (by decide) rfl ?_
    refine g_aload_n 0 C rfl dX1_isCrossed_46 rfl ?_
    refine gf_X1_15 C dX1_isCrossed_47 ?_
    refine g_iload_n 3 C rfl dX1_isCrossed_50 rfl ?_
    refine g_iload 4 C rfl dX1_isCrossed_51 ?_
    refine g_iload 5 C rfl dX1_isCrossed_53 ?_
    refine g_callL C (c_X0_bend g (σ := σ) (nn := nn) hn6 hx hm (i := q2) (j := r) (r := s) (by omega) (by omega) (by omega)) gv_X1_39 yd_X0_bend ⟨by decide, by decide⟩ 1 0 (WD_get (by decide)) rfl rfl (Nat.le_of_ble_eq_true rfl) dX1_isCrossed_55 ?_
    rintro _ _ rfl
    refine g_aload 6 C rfl dX1_isCrossed_58 ?_
    refine g_iload_n 2 C rfl dX1_isCrossed_60 rfl ?_
    refine g_iald C 3 p (by decide) (fun _ => rfl) (by omega) (by omega) (by decide) dX1_isCrossed_61 ?_
    refine g_i2l C dX1_isCrossed_62 ((hl p (by omega)).1.I32 (by decide)) ?_
    refine g_lmul C dX1_isCrossed_63 ?_
    refine g_aload_n 0 C rfl dX1_isCrossed_64 rfl ?_
    refine gf_X1_15 C dX1_isCrossed_65 ?_
    refine g_iload_n 2 C rfl dX1_isCrossed_68 rfl ?_
    refine g_iload 4 C rfl dX1_isCrossed_69 ?_
    refine g_iload 5 C rfl dX1_isCrossed_71 ?_
    refine g_callL C (c_X0_bend g (σ := σ) (nn := nn) hn6 hx hm (i := p) (j := r) (r := s) (by omega) (by omega) (by omega)) gv_X1_39 yd_X0_bend ⟨by decide, by decide⟩ 1 0 (WD_get (by decide)) rfl rfl (Nat.le_of_ble_eq_true rfl) dX1_isCrossed_73 ?_
    rintro _ _ rfl
    refine g_aload 7 C rfl dX1_isCrossed_76 ?_
    refine g_iload_n 3 C rfl dX1_isCrossed_78 rfl ?_
    refine g_iald C 4 q2 (by decide) (fun _ => rfl) (by omega) (by omega) (by decide) dX1_isCrossed_79 ?_
    refine g_i2l C dX1_isCrossed_80 ((hl q2 (by omega)).2.I32 (by decide)) ?_
    refine g_lmul C dX1_isCrossed_81 ?_
    refine g_lsub C dX1_isCrossed_82 ?_
    refine g_aload_n 0 C rfl dX1_isCrossed_83 rfl ?_
    refine gf_X1_15 C dX1_isCrossed_84 ?_
    refine g_iload_n 2 C rfl dX1_isCrossed_87 rfl ?_
    refine g_iload_n 3 C rfl dX1_isCrossed_88 rfl ?_
    refine g_iload 5 C rfl dX1_isCrossed_89 ?_
    refine g_callL C (c_X0_bend g (σ := σ) (nn := nn) hn6 hx hm (i := p) (j := q2) (r := s) (by omega) (by omega) (by omega)) gv_X1_39 yd_X0_bend ⟨by decide, by decide⟩ 1 0 (WD_get (by decide)) rfl rfl (Nat.le_of_ble_eq_true rfl) dX1_isCrossed_91 ?_
    rintro _ _ rfl
    refine g_aload 6 C rfl dX1_isCrossed_94 ?_
    refine g_iload 4 C rfl dX1_isCrossed_96 ?_
    refine g_iald C 3 r (by decide) (fun _ => rfl) (by omega) (by omega) (by decide) dX1_isCrossed_98 ?_
    refine g_i2l C dX1_isCrossed_99 ((hl r (by omega)).1.I32 (by decide)) ?_
    refine g_lmul C dX1_isCrossed_100 ?_
    refine g_ladd C dX1_isCrossed_101 ?_
    refine g_aload_n 0 C rfl dX1_isCrossed_102 rfl ?_
    refine gf_X1_15 C dX1_isCrossed_103 ?_
    refine g_iload_n 2 C rfl dX1_isCrossed_106 rfl ?_
    refine g_iload_n 3 C rfl dX1_isCrossed_107 rfl ?_
    refine g_iload 4 C rfl dX1_isCrossed_108 ?_
    refine g_callL C (c_X0_bend g (σ := σ) (nn := nn) hn6 hx hm (i := p) (j := q2) (r := r) (by omega) (by omega) (by omega)) gv_X1_39 yd_X0_bend ⟨by decide, by decide⟩ 1 0 (WD_get (by decide)) rfl rfl (Nat.le_of_ble_eq_true rfl) dX1_isCrossed_110 ?_
    rintro _ _ rfl
    refine g_aload 7 C rfl dX1_isCrossed_113 ?_
    refine g_iload 5 C rfl dX1_isCrossed_115 ?_
    refine g_iald C 4 s (by decide) (fun _ => rfl) (by omega) (by omega) (by decide) dX1_isCrossed_117 ?_
    refine g_i2l C dX1_isCrossed_118 ((hl s (by omega)).2.I32 (by decide)) ?_
    refine g_lmul C dX1_isCrossed_119 ?_
    refine g_lsub C dX1_isCrossed_120 ?_
    refine g_lname (fun w7 ew7 => ?_)
    refine g_lstore (lv' := [(0, .ref (q 12)), (1, .int (iZ (od : Int))), (2, .int (iZ (p : Int))), (3, .int (iZ (q2 : Int))), (4, .int (iZ (r : Int))), (5, .int (iZ (s : Int))), (6, .ref (q 3)), (7, .ref (q 4)), (8, .long (lZ w7))]) [1, 2, 3, 4, 5, 6, 7, 8, 0] C dX1_isCrossed_121 (by decide) rfl ?_
    have eS : w7 = crS σ 3 4 p q2 r s := ew7
    have hwI : I64 w7 := by rw [eS]; exact (crS_B hx hm (fun i hi => (hl i hi).1) (fun i hi => (hl i hi).2) hp hq2 hr hs).I (by decide)
    refine g_iload_n 1 C rfl dX1_isCrossed_123 rfl ?_
    refine g_if_ne 142 C (by unfold I32; omega) dX1_isCrossed_124 (by decide) (fun h8 => ?_) (fun h8 => ?_)
    · exact absurd h8 (by first | decide | omega)
    refine g_lload 8 C rfl dX1_isCrossed_127 ?_
    refine g_lconst 0 C dX1_isCrossed_129 (by decide) ?_
    refine g_lcmp_le 138 C (hwI) (by unfold I64; omega) dX1_isCrossed_130 dX1_isCrossed_131 (by decide) (fun h9 => ?_) (fun h9 => ?_)
    · refine g_iconst C dX1_isCrossed_138 ?_
      refine g_goto 154 C dX1_isCrossed_139 (by decide) ?_
      refine g_zret (u := ()) C T dX1_isCrossed_154 (by omega) ?_
      exact ⟨_, rfl, (bZ_f (by unfold Crs; omega)).symm⟩
    · refine g_iconst C dX1_isCrossed_134 ?_
      refine g_goto 154 C dX1_isCrossed_135 (by decide) ?_
      refine g_zret (u := ()) C T dX1_isCrossed_154 (by omega) ?_
      exact ⟨_, rfl, (bZ_t (by unfold Crs; omega)).symm⟩
set_option maxHeartbeats 4000000 in
set_option maxRecDepth 20000 in
theorem c_X1_barsThree (g : Gx) {q : Nat → Nat} {σ : Nat → Nat → Int} {nn : Nat} (hn : σ 1 0 = (nn : Int)) (hn2 : 2 ≤ nn) (hn6 : nn ≤ 6) (hx : ∀ i, i ≤ nn → 0 ≤ σ 2 i ∧ σ 2 i ≤ 20) (hl : ∀ i, i ≤ nn → Bd (σ 3 i) 20 ∧ Bd (σ 4 i) 20) (hm : ∀ i, i ≤ nn → Bd (σ 6 i) 40000) {od : Nat} (hod : od < 2) {p q2 r : Nat} (hp : p ≤ nn) (hq2 : q2 ≤ nn) (hr : r ≤ nn) : MC g yX1_barsThree cX1_barsThree 5 ((some .boolean)) 2 51 (WC g q σ) [.ref (q 12), .int (iZ (od : Int)), .int (iZ (p : Int)), .int (iZ (q2 : Int)), .int (iZ (r : Int))] (fun u => WC g q u) (pI (fun z u => (z = 1 ∧ B3 σ od p q2 r ∧ u = up (kpS σ od p q2 r) 12 1 3) ∨ (z = 0 ∧ ¬ B3 σ od p q2 r ∧ u = σ))) := by
  refine MC_intro (own := RX1) rfl (by decide) (Nat.le_of_ble_eq_true rfl) (fun K C T => ?_)
  show GJ g K (WC g q σ) 0 [(0, .ref (q 12)), (1, .int (iZ (od : Int))), (2, .int (iZ (p : Int))), (3, .int (iZ (q2 : Int))), (4, .int (iZ (r : Int)))] []
  refine g_aload_n 0 C rfl dX1_barsThree_0 rfl ?_
  refine gf_X1_15 C dX1_barsThree_1 ?_
  refine g_iload_n 2 C rfl dX1_barsThree_4 rfl ?_
  refine g_iload_n 3 C rfl dX1_barsThree_5 rfl ?_
  refine g_iload 4 C rfl dX1_barsThree_6 ?_
  refine g_callL C (c_X0_bend g (σ := σ) (nn := nn) hn6 hx hm (i := p) (j := q2) (r := r) (by omega) (by omega) (by omega)) gv_X1_39 yd_X0_bend ⟨by decide, by decide⟩ 1 0 (WD_get (by decide)) rfl rfl (Nat.le_of_ble_eq_true rfl) dX1_barsThree_8 ?_
  rintro _ _ rfl
  refine g_lconst 0 C dX1_barsThree_11 (by decide) ?_
  refine g_lcmp_ne 28 C ((rs_B hx hm hm (i := p) (j := q2) (r := r) (by omega) (by omega) (by omega)).I (by decide)) (by unfold I64; omega) dX1_barsThree_12 dX1_barsThree_13 (by decide) (fun h1 => ?_) (fun h1 => ?_)
  · refine g_iconst C dX1_barsThree_28 ?_
    refine g_zret (u := σ) C T dX1_barsThree_29 (by omega) ?_
    exact ⟨_, rfl, Or.inr ⟨rfl, fun h => h1 h.1, rfl⟩⟩
  · refine g_aload_n 0 C rfl dX1_barsThree_16 rfl ?_
    refine g_iload_n 1 C rfl dX1_barsThree_17 rfl ?_
    refine g_iload_n 2 C rfl dX1_barsThree_18 rfl ?_
    refine g_iload_n 3 C rfl dX1_barsThree_19 rfl ?_
    refine g_iload 4 C rfl dX1_barsThree_20 ?_
    refine g_callI C (c_X1_isBeyondChord g (σ := σ) hn hn2 hn6 hx hl hm hod hp hq2 hr) gv_X1_43 yd_X1_isBeyondChord ⟨by decide, by decide⟩ 12 1 (WD_get (by decide)) rfl rfl (Nat.le_of_ble_eq_true rfl) dX1_barsThree_22 ?_
    rintro _ _ rfl
    refine g_bne 30 C dX1_barsThree_25 (by decide) (fun h2 => ?_) (fun h2 => ?_)
    · refine g_aload_n 0 C rfl dX1_barsThree_30 rfl ?_
      refine g_iload_n 1 C rfl dX1_barsThree_31 rfl ?_
      refine g_iload_n 2 C rfl dX1_barsThree_32 rfl ?_
      refine g_iload_n 3 C rfl dX1_barsThree_33 rfl ?_
      refine g_iload 4 C rfl dX1_barsThree_34 ?_
      refine g_callV C (c_X1_keep g (σ := σ) (od := od) (p := p) (q2 := q2) (r := r)) gv_X1_46 yd_X1_keep ⟨by decide, by decide⟩ 12 1 (WD_get (by decide)) rfl rfl (Nat.le_of_ble_eq_true rfl) dX1_barsThree_36 ?_
      rintro _ rfl
      refine g_aload_n 0 C rfl dX1_barsThree_39 rfl ?_
      refine g_iconst C dX1_barsThree_40 ?_
      refine pf_X1_19 C dX1_barsThree_41 ?_
      refine g_iconst C dX1_barsThree_44 ?_
      refine g_zret (u := (up (kpS σ od p q2 r) 12 1 3)) C T dX1_barsThree_45 (by omega) ?_
      exact ⟨_, rfl, Or.inl ⟨rfl, ⟨by omega, h2⟩, rfl⟩⟩
    · refine g_iconst C dX1_barsThree_28 ?_
      refine g_zret (u := σ) C T dX1_barsThree_29 (by omega) ?_
      exact ⟨_, rfl, Or.inr ⟨rfl, fun h => h2 h.2, rfl⟩⟩
/-- what four edges from here bar, and what is kept of them -/
def Hit4 (σ : Nat → Nat → Int) (nn od p q r : Nat) (u : Nat → Nat → Int) : Prop := (∃ s, r < s ∧ s ≤ nn ∧ Crs σ od p q r s ∧ (∀ s', r < s' → s' < s → ¬ Crs σ od p q r s') ∧ u = up (up (kpS σ od p q r) 13 3 (2 * (s : Int) + 1 - (od : Int))) 12 1 4) ∨ ((∀ s', r < s' → s' ≤ nn → ¬ Crs σ od p q r s') ∧ od = 0 ∧ Bey σ od p q r ∧ u = up (up (kpS σ od p q r) 13 3 14) 12 1 4)
def No4 (σ : Nat → Nat → Int) (nn od p q r : Nat) : Prop := (∀ s', r < s' → s' ≤ nn → ¬ Crs σ od p q r s') ∧ ¬ (od = 0 ∧ Bey σ od p q r)
set_option maxHeartbeats 4000000 in
set_option maxRecDepth 20000 in
theorem lp_X1_barsFour {g : Gx} {K : Kx} {q : Nat → Nat} {σ : Nat → Nat → Int} {nn : Nat} (hn : σ 1 0 = (nn : Int)) (hn2 : 2 ≤ nn) (hn6 : nn ≤ 6) (hx : ∀ i, i ≤ nn → 0 ≤ σ 2 i ∧ σ 2 i ≤ 20) (hl : ∀ i, i ≤ nn → Bd (σ 3 i) 20 ∧ Bd (σ 4 i) 20) (hm : ∀ i, i ≤ nn → Bd (σ 6 i) 40000) {od : Nat} (hod : od < 2) {p q2 r : Nat} (hp : p ≤ nn) (hq2 : q2 ≤ nn) (hr : r ≤ nn) (C : CX g K cX1_barsFour RX1 6 3 79) (T : RT g K (some .boolean) (fun u => WC g q u) (pI (fun z u => (z = 1 ∧ Hit4 σ nn od p q2 r u) ∨ (z = 0 ∧ No4 σ nn od p q2 r ∧ u = σ)))) : ∀ (d s : Nat), r < s → s ≤ nn + 1 → nn + 1 < s + d → (∀ s', r < s' → s' < s → ¬ Crs σ od p q2 r s') → GJ g K (WC g q σ) 6 [(0, .ref (q 12)), (1, .int (iZ (od : Int))), (2, .int (iZ (p : Int))), (3, .int (iZ (q2 : Int))), (4, .int (iZ (r : Int))), (5, .int (iZ (s : Int)))] [] := by
  intro d
  induction d with
  | zero => intro s k0 k1 k2; omega
  | succ d ih =>
    intro s k0 k1 k2 hI
    refine g_iload 5 C rfl dX1_barsFour_6 ?_
    refine g_aload_n 0 C rfl dX1_barsFour_8 rfl ?_
    refine gf_X1_15 C dX1_barsFour_9 ?_
    refine gf_X1_27 C dX1_barsFour_12 ?_
    rw [show σ 1 0 = (nn : Int) from hn]
    refine g_icmp_gt 68 C (by unfold I32; omega) (by unfold I32; omega) dX1_barsFour_15 (by decide) (fun h1 => ?_) (fun h1 => ?_)
    · refine g_iload_n 1 C rfl dX1_barsFour_68 rfl ?_
      refine g_if_ne 108 C (by unfold I32; omega) dX1_barsFour_69 (by decide) (fun h2 => ?_) (fun h2 => ?_)
      · refine g_iconst C dX1_barsFour_108 ?_
        refine g_zret (u := σ) C T dX1_barsFour_109 (by omega) ?_
        exact ⟨_, rfl, Or.inr ⟨rfl, ⟨fun s' k5 k6 => hI s' k5 (by omega), fun h => h2 (by omega)⟩, rfl⟩⟩
      · refine g_aload_n 0 C rfl dX1_barsFour_72 rfl ?_
        refine g_iload_n 1 C rfl dX1_barsFour_73 rfl ?_
        refine g_iload_n 2 C rfl dX1_barsFour_74 rfl ?_
        refine g_iload_n 3 C rfl dX1_barsFour_75 rfl ?_
        refine g_iload 4 C rfl dX1_barsFour_76 ?_
        refine g_callI C (c_X1_isBeyondChord g (σ := σ) hn hn2 hn6 hx hl hm hod hp hq2 hr) gv_X1_43 yd_X1_isBeyondChord ⟨by decide, by decide⟩ 12 1 (WD_get (by decide)) rfl rfl (Nat.le_of_ble_eq_true rfl) dX1_barsFour_78 ?_
        rintro _ _ rfl
        refine g_beq 108 C dX1_barsFour_81 (by decide) (fun h3 => ?_) (fun h3 => ?_)
        · refine g_iconst C dX1_barsFour_108 ?_
          refine g_zret (u := σ) C T dX1_barsFour_109 (by omega) ?_
          exact ⟨_, rfl, Or.inr ⟨rfl, ⟨fun s' k5 k6 => hI s' k5 (by omega), fun h => h3 h.2⟩, rfl⟩⟩
        · refine g_aload_n 0 C rfl dX1_barsFour_84 rfl ?_
          refine g_iload_n 1 C rfl dX1_barsFour_85 rfl ?_
          refine g_iload_n 2 C rfl dX1_barsFour_86 rfl ?_
          refine g_iload_n 3 C rfl dX1_barsFour_87 rfl ?_
          refine g_iload 4 C rfl dX1_barsFour_88 ?_
          refine g_callV C (c_X1_keep g (σ := σ) (od := od) (p := p) (q2 := q2) (r := r)) gv_X1_46 yd_X1_keep ⟨by decide, by decide⟩ 12 1 (WD_get (by decide)) rfl rfl (Nat.le_of_ble_eq_true rfl) dX1_barsFour_90 ?_
          rintro _ rfl
          refine g_aload_n 0 C rfl dX1_barsFour_93 rfl ?_
          refine gf_X1_9 C dX1_barsFour_94 ?_
          refine g_iconst C dX1_barsFour_97 ?_
          refine g_bipush C dX1_barsFour_98 (by decide) ?_
          refine g_iast C 13 3 (by decide) (fun _ => rfl) (by omega) (by omega) (by decide) dX1_barsFour_100 ?_
          refine g_aload_n 0 C rfl dX1_barsFour_101 rfl ?_
          refine g_iconst C dX1_barsFour_102 ?_
          refine pf_X1_19 C dX1_barsFour_103 ?_
          refine g_iconst C dX1_barsFour_106 ?_
          refine g_zret (u := (up (up (kpS σ od p q2 r) 13 3 14) 12 1 4)) C T dX1_barsFour_107 (by omega) ?_
          exact ⟨_, rfl, Or.inl ⟨rfl, Or.inr ⟨fun s' k5 k6 => hI s' k5 (by omega), by omega, h3, rfl⟩⟩⟩
    · refine g_aload_n 0 C rfl dX1_barsFour_18 rfl ?_
      refine g_iload_n 1 C rfl dX1_barsFour_19 rfl ?_
      refine g_iload_n 2 C rfl dX1_barsFour_20 rfl ?_
      refine g_iload_n 3 C rfl dX1_barsFour_21 rfl ?_
      refine g_iload 4 C rfl dX1_barsFour_22 ?_
      refine g_iload 5 C rfl dX1_barsFour_24 ?_
      refine g_callI C (c_X1_isCrossed g (σ := σ) hn hn2 hn6 hx hl hm hod hp hq2 hr (s := s) (by omega)) gv_X1_50 yd_X1_isCrossed ⟨by decide, by decide⟩ 12 1 (WD_get (by decide)) rfl rfl (Nat.le_of_ble_eq_true rfl) dX1_barsFour_26 ?_
      rintro _ _ rfl
      refine g_beq 62 C dX1_barsFour_29 (by decide) (fun h4 => ?_) (fun h4 => ?_)
      · refine g_iinc (lv' := [(0, .ref (q 12)), (1, .int (iZ (od : Int))), (2, .int (iZ (p : Int))), (3, .int (iZ (q2 : Int))), (4, .int (iZ (r : Int))), (5, .int (iZ ((s : Int) + 1)))]) 5 [1, 2, 3, 4, 5, 0] C rfl dX1_barsFour_62 (by decide) rfl ?_
        refine g_goto 6 C dX1_barsFour_65 (by decide) ?_
        exact ih (s + 1) (by omega) (by omega) (by omega) (fun s' k5 k6 => by by_cases he : s' = s; (· subst he; exact h4); exact hI s' k5 (by omega))
      · refine g_aload_n 0 C rfl dX1_barsFour_32 rfl ?_
        refine g_iload_n 1 C rfl dX1_barsFour_33 rfl ?_
        refine g_iload_n 2 C rfl dX1_barsFour_34 rfl ?_
        refine g_iload_n 3 C rfl dX1_barsFour_35 rfl ?_
        refine g_iload 4 C rfl dX1_barsFour_36 ?_
        refine g_callV C (c_X1_keep g (σ := σ) (od := od) (p := p) (q2 := q2) (r := r)) gv_X1_46 yd_X1_keep ⟨by decide, by decide⟩ 12 1 (WD_get (by decide)) rfl rfl (Nat.le_of_ble_eq_true rfl) dX1_barsFour_38 ?_
        rintro _ rfl
        refine g_aload_n 0 C rfl dX1_barsFour_41 rfl ?_
        refine gf_X1_9 C dX1_barsFour_42 ?_
        refine g_iconst C dX1_barsFour_45 ?_
        refine g_iconst C dX1_barsFour_46 ?_
        refine g_iload 5 C rfl dX1_barsFour_47 ?_
        refine g_imul C dX1_barsFour_49 ?_
        refine g_iconst C dX1_barsFour_50 ?_
        refine g_iadd C dX1_barsFour_51 ?_
        refine g_iload_n 1 C rfl dX1_barsFour_52 rfl ?_
        refine g_isub C dX1_barsFour_53 ?_
        refine g_iast C 13 3 (by decide) (fun _ => rfl) (by omega) (by omega) (by decide) dX1_barsFour_54 ?_
        refine g_aload_n 0 C rfl dX1_barsFour_55 rfl ?_
        refine g_iconst C dX1_barsFour_56 ?_
        refine pf_X1_19 C dX1_barsFour_57 ?_
        refine g_iconst C dX1_barsFour_60 ?_
        refine g_zret (u := (up (up (kpS σ od p q2 r) 13 3 (((2 * (s : Int)) + 1) - (od : Int))) 12 1 4)) C T dX1_barsFour_61 (by omega) ?_
        exact ⟨_, rfl, Or.inl ⟨rfl, Or.inl ⟨s, k0, by omega, h4, hI, rfl⟩⟩⟩
set_option maxHeartbeats 4000000 in
set_option maxRecDepth 20000 in
theorem c_X1_barsFour (g : Gx) {q : Nat → Nat} {σ : Nat → Nat → Int} {nn : Nat} (hn : σ 1 0 = (nn : Int)) (hn2 : 2 ≤ nn) (hn6 : nn ≤ 6) (hx : ∀ i, i ≤ nn → 0 ≤ σ 2 i ∧ σ 2 i ≤ 20) (hl : ∀ i, i ≤ nn → Bd (σ 3 i) 20 ∧ Bd (σ 4 i) 20) (hm : ∀ i, i ≤ nn → Bd (σ 6 i) 40000) {od : Nat} (hod : od < 2) {p q2 r : Nat} (hp : p ≤ nn) (hq2 : q2 ≤ nn) (hr : r ≤ nn) : MC g yX1_barsFour cX1_barsFour 6 ((some .boolean)) 3 79 (WC g q σ) [.ref (q 12), .int (iZ (od : Int)), .int (iZ (p : Int)), .int (iZ (q2 : Int)), .int (iZ (r : Int))] (fun u => WC g q u) (pI (fun z u => (z = 1 ∧ Hit4 σ nn od p q2 r u) ∨ (z = 0 ∧ No4 σ nn od p q2 r ∧ u = σ))) := by
  refine MC_intro (own := RX1) rfl (by decide) (Nat.le_of_ble_eq_true rfl) (fun K C T => ?_)
  show GJ g K (WC g q σ) 0 [(0, .ref (q 12)), (1, .int (iZ (od : Int))), (2, .int (iZ (p : Int))), (3, .int (iZ (q2 : Int))), (4, .int (iZ (r : Int)))] []
  refine g_iload 4 C rfl dX1_barsFour_0 ?_
  refine g_iconst C dX1_barsFour_2 ?_
  refine g_iadd C dX1_barsFour_3 ?_
  refine g_iname (fun w1 ew1 => ?_)
  refine g_istore (lv' := [(0, .ref (q 12)), (1, .int (iZ (od : Int))), (2, .int (iZ (p : Int))), (3, .int (iZ (q2 : Int))), (4, .int (iZ (r : Int))), (5, .int (iZ w1))]) [1, 2, 3, 4, 5, 0] C dX1_barsFour_4 (by decide) rfl ?_
  subst ew1
  exact lp_X1_barsFour hn hn2 hn6 hx hl hm hod hp hq2 hr C T (nn + 1) (r + 1) (by omega) (by omega) (by omega) (fun s' k5 k6 => by omega)
