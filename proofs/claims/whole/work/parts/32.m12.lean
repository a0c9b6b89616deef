def det4 (f : Nat → Nat → Int) (p q r s w x y z : Nat) : Int := f p w * det3 f q r s x y z - f q w * det3 f p r s x y z + f r w * det3 f p q s x y z - f s w * det3 f p q r x y z
def RBT (σ : Nat → Nat → Int) (nr : Nat) : Prop := ∀ r, r < nr → Bd (rwf σ r 0) 40 ∧ Bd (rwf σ r 1) 40 ∧ Bd (rwf σ r 2) 80000 ∧ Bd (rwf σ r 3) 800 ∧ Bd (rwf σ r 4) 800
theorem RBT.same {σ u : Nat → Nat → Int} {nr : Nat} (h : RBT σ nr) (e : rwf u = rwf σ) : RBT u nr := by
  unfold RBT
  rw [e]
  exact h
def cbd (c : Nat) : Int := match c with
  | 0 => 40
  | 1 => 40
  | 2 => 80000
  | _ => 800
theorem RBT.any {σ : Nat → Nat → Int} {nr r c : Nat} (h : RBT σ nr) (hr : r < nr) (hc : c < 5) : Bd (rwf σ r c) (cbd c) := by
  obtain ⟨h0, h1, h2, h3, h4⟩ := h r hr
  rcases (show c = 0 ∨ c = 1 ∨ c = 2 ∨ c = 3 ∨ c = 4 by omega) with rfl | rfl | rfl | rfl | rfl <;> assumption
theorem RBT.d3 {σ : Nat → Nat → Int} {nr p q r x y z : Nat} (h : RBT σ nr) (hp : p < nr) (hq : q < nr) (hr : r < nr) (hx : x < 5) (hy : y < 5) (hz : z < 5) : Bd (det3 (rwf σ) p q r x y z) (6 * (cbd x * (cbd y * cbd z))) :=
  det3_bd ⟨h.any hp hx, h.any hp hy, h.any hp hz⟩ ⟨h.any hq hx, h.any hq hy, h.any hq hz⟩ ⟨h.any hr hx, h.any hr hy, h.any hr hz⟩
theorem RBT.d4 {σ : Nat → Nat → Int} {nr p q r s w x y z : Nat} (h : RBT σ nr) (hp : p < nr) (hq : q < nr) (hr : r < nr) (hs : s < nr) (hw : w < 5) (hx : x < 5) (hy : y < 5) (hz : z < 5) : Bd (det4 (rwf σ) p q r s w x y z) (4 * (cbd w * (6 * (cbd x * (cbd y * cbd z))))) :=
  (((((h.any hp hw).mul (h.d3 hq hr hs hx hy hz)).sub ((h.any hq hw).mul (h.d3 hp hr hs hx hy hz))).add ((h.any hr hw).mul (h.d3 hp hq hs hx hy hz))).sub ((h.any hs hw).mul (h.d3 hp hq hr hx hy hz))).mono (by omega)
def Vx4 (f : Nat → Nat → Int) (p q r s : Nat) (a b k t d : Int) : Prop := 0 < d ∧ ∃ e : Int, (e = 1 ∨ e = -1) ∧ d = e * det4 f p q r s 3 0 1 2 ∧ t = e * det4 f p q r s 4 0 1 2 ∧ a = e * det4 f p q r s 3 4 1 2 ∧ b = e * det4 f p q r s 3 0 4 2 ∧ k = e * det4 f p q r s 3 0 1 4
theorem Vx4.uniq {f : Nat → Nat → Int} {p q r s : Nat} {a b k t d a' b' k' t' d' : Int} (h : Vx4 f p q r s a b k t d) (h' : Vx4 f p q r s a' b' k' t' d') : a = a' ∧ b = b' ∧ k = k' ∧ t = t' ∧ d = d' := by
  obtain ⟨h1, s, hs, e1, e2, e3, e4, e5⟩ := h
  obtain ⟨h2, t, ht, f1, f2, f3, f4, f5⟩ := h'
  have hst : s = t := by
    rcases hs with rfl | rfl <;> rcases ht with rfl | rfl <;> omega
  subst hst
  exact ⟨by omega, by omega, by omega, by omega, by omega⟩
def KpT (f : Nat → Nat → Int) (nr : Nat) (a b k t d : Int) : Prop := ∀ r, r < nr → f r 4 * d ≤ f r 0 * a + f r 1 * b + f r 2 * k + f r 3 * t
/-- the least that was found, within its bounds; 0 by 0 ahead of that -/
def FBd (τ : Nat → Nat → Int) : Prop := τ 0 20 = 0 ∨ (0 < τ 0 20 ∧ Bd (τ 0 20) 2457600000000 ∧ Bd (τ 0 19) 2457600000000)
theorem m4_in {σ u : Nat → Nat → Int} {nr p q r s : Nat} {D A B Kk Tt e : Int} (hR : RBT σ nr) (hp : p < nr) (hq : q < nr) (hr : r < nr) (hs : s < nr) (hD : D = det4 (rwf σ) p q r s 3 0 1 2) (hD0 : D ≠ 0) (hT : Tt = det4 (rwf σ) p q r s 4 0 1 2) (hA : A = det4 (rwf σ) p q r s 3 4 1 2) (hB : B = det4 (rwf σ) p q r s 3 0 4 2) (hK : Kk = det4 (rwf σ) p q r s 3 0 1 4) (hF : FrS (up (up (up (up (up σ 0 11 D) 9 3 Tt) 9 0 A) 9 1 B) 9 2 Kk) u) (he : e = 1 ∨ e = -1) (h0 : 0 ≤ e * D) (h1 : u 0 11 = e * D) (h2 : ∀ c, c < 4 → u 9 c = e * (up (up (up (up (up σ 0 11 D) 9 3 Tt) 9 0 A) 9 1 B) 9 2 Kk) 9 c) :
    FrS σ u ∧ rwf u = rwf σ ∧ Vx4 (rwf σ) p q r s (u 9 0) (u 9 1) (u 9 2) (u 9 3) (u 0 11) ∧ Bd (u 9 3) 2457600000000 ∧ Bd (u 0 11) 2457600000000 ∧ (∀ r, r < nr → I64 (lin u r) ∧ I64 (rwf u r 4 * u 0 11)) := by
  have e0 : u 9 0 = e * A := h2 0 (by decide)
  have e1 : u 9 1 = e * B := h2 1 (by decide)
  have e2 : u 9 2 = e * Kk := h2 2 (by decide)
  have e3 : u 9 3 = e * Tt := h2 3 (by decide)
  have hF2 : FrS σ u := ⟨fun c h8 h9 => by rw [hF.1 c h8 h9]; simp [up, h8, h9], fun j h9 => by rw [hF.2 j h9]; simp [up, updI, h9]⟩
  have b0 : Bd (u 9 0) 49152000000000 := by rw [e0, hA]; exact (hR.d4 hp hq hr hs (by decide) (by decide) (by decide) (by decide)).sg he
  have b1 : Bd (u 9 1) 49152000000000 := by rw [e1, hB]; exact (hR.d4 hp hq hr hs (by decide) (by decide) (by decide) (by decide)).sg he
  have b2 : Bd (u 9 2) 24576000000 := by rw [e2, hK]; exact (hR.d4 hp hq hr hs (by decide) (by decide) (by decide) (by decide)).sg he
  have b4 : Bd (u 9 3) 2457600000000 := by rw [e3, hT]; exact (hR.d4 hp hq hr hs (by decide) (by decide) (by decide) (by decide)).sg he
  have b3 : Bd (u 0 11) 2457600000000 := by rw [h1, hD]; exact (hR.d4 hp hq hr hs (by decide) (by decide) (by decide) (by decide)).sg he
  refine ⟨hF2, hF2.rw, ⟨by rw [h1]; rcases he with rfl | rfl <;> omega, e, he, by rw [h1, hD], by rw [e3, hT], by rw [e0, hA], by rw [e1, hB], by rw [e2, hK]⟩, b4, b3, fun r9 h9 => ?_⟩
  obtain ⟨c0, c1, c2, c3, c4⟩ := hR r9 h9
  rw [← hF2.rw] at c0 c1 c2 c3 c4
  exact ⟨((((c0.mul b0).add (c1.mul b1)).add (c2.mul b2)).add (c3.mul b4)).I (by decide), (c4.mul b3).I (by decide)⟩
theorem keeps_T {σ u : Nat → Nat → Int} {nr : Nat} (hw : rwf u = rwf σ) : Keeps u nr = KpT (rwf σ) nr (u 9 0) (u 9 1) (u 9 2) (u 9 3) (u 0 11) := by
  unfold Keeps KpT lin
  rw [hw]
def M4 (σ : Nat → Nat → Int) (nr p q r s : Nat) (z : Int) (u : Nat → Nat → Int) : Prop := FrS σ u ∧ ((det4 (rwf σ) p q r s 3 0 1 2 = 0 ∧ z = bZ False) ∨ (Vx4 (rwf σ) p q r s (u 9 0) (u 9 1) (u 9 2) (u 9 3) (u 0 11) ∧ Bd (u 9 3) 2457600000000 ∧ Bd (u 0 11) 2457600000000 ∧ z = bZ (¬ (0 < σ 0 20 ∧ σ 0 19 * u 0 11 ≤ u 9 3 * σ 0 20) ∧ KpT (rwf σ) nr (u 9 0) (u 9 1) (u 9 2) (u 9 3) (u 0 11))))
theorem gcZ_div {a b : Int} : a.tdiv (gcZ a b) * gcZ a b = a ∧ b.tdiv (gcZ a b) * gcZ a b = b :=
  ⟨Int.tdiv_mul_cancel (Int.ofNat_dvd_left.mpr (Nat.gcd_dvd_left _ _)), Int.tdiv_mul_cancel (Int.ofNat_dvd_left.mpr (Nat.gcd_dvd_right _ _))⟩
theorem gcZ_red {a b : Int} (hb : 0 < b) : Nat.gcd (a.tdiv (gcZ a b)).natAbs (b.tdiv (gcZ a b)).natAbs = 1 := by
  obtain ⟨h1, h2⟩ := gcZ_div (a := a) (b := b)
  have hg := (gcZ_pos (a := a) hb).1
  have e1 : (a.tdiv (gcZ a b)).natAbs * (gcZ a b).natAbs = a.natAbs := by rw [← Int.natAbs_mul, h1]
  have e2 : (b.tdiv (gcZ a b)).natAbs * (gcZ a b).natAbs = b.natAbs := by rw [← Int.natAbs_mul, h2]
  have e3 : (gcZ a b).natAbs = Nat.gcd a.natAbs b.natAbs := Int.natAbs_natCast _
  have e4 : Nat.gcd ((a.tdiv (gcZ a b)).natAbs * (gcZ a b).natAbs) ((b.tdiv (gcZ a b)).natAbs * (gcZ a b).natAbs) = (gcZ a b).natAbs := by rw [e1, e2, e3]
  rw [Nat.gcd_mul_right] at e4
  have hp : 0 < (gcZ a b).natAbs := by omega
  exact Nat.eq_of_mul_eq_mul_right hp (by rw [e4, Nat.one_mul])
set_option maxHeartbeats 4000000 in
set_option maxRecDepth 20000 in
theorem c_X7_four (g : Gx) {q : Nat → Nat} {σ : Nat → Nat → Int} {p1 p2 p3 p4 x0 x1 x2 x3 : Nat} (h1 : p1 < 16) (h2 : p2 < 16) (h3 : p3 < 16) (h4 : p4 < 16) (h5 : x0 < 5) (h6 : x1 < 5) (h7 : x2 < 5) (h8 : x3 < 5) : MC g yX7_four cX7_four 9 ((some .long)) 1 32 (WM g q σ) [.ref (q 0), .int (iZ (p1 : Int)), .int (iZ (p2 : Int)), .int (iZ (p3 : Int)), .int (iZ (p4 : Int)), .int (iZ (x0 : Int)), .int (iZ (x1 : Int)), .int (iZ (x2 : Int)), .int (iZ (x3 : Int))] (fun _ : Unit => WM g q σ) (pL (fun z _ => z = det4 (rwf σ) p1 p2 p3 p4 x0 x1 x2 x3)) := by
  refine MC_intro (own := RX7) rfl (by decide) (Nat.le_of_ble_eq_true rfl) (fun K C T => ?_)
  show GJ g K (WM g q σ) 0 [(0, .ref (q 0)), (1, .int (iZ (p1 : Int))), (2, .int (iZ (p2 : Int))), (3, .int (iZ (p3 : Int))), (4, .int (iZ (p4 : Int))), (5, .int (iZ (x0 : Int))), (6, .int (iZ (x1 : Int))), (7, .int (iZ (x2 : Int))), (8, .int (iZ (x3 : Int)))] []
  refine g_aload_n 0 C rfl dX7_four_0 rfl ?_
  refine gf_X7_35 C dX7_four_1 ?_
  refine g_iconst C dX7_four_4 ?_
  refine g_iload_n 1 C rfl dX7_four_5 rfl ?_
  refine g_imul C dX7_four_6 ?_
  refine g_iload 5 C rfl dX7_four_7 ?_
  refine g_iadd C dX7_four_9 ?_
  refine g_lald C 8 ((5 * p1) + x0) (by decide) (fun _ => rfl) (by omega) (by omega) (by decide) dX7_four_10 ?_
  refine g_aload_n 0 C rfl dX7_four_11 rfl ?_
  refine g_iload_n 2 C rfl dX7_four_12 rfl ?_
  refine g_iload_n 3 C rfl dX7_four_13 rfl ?_
  refine g_iload 4 C rfl dX7_four_14 ?_
  refine g_iload 6 C rfl dX7_four_16 ?_
  refine g_iload 7 C rfl dX7_four_18 ?_
  refine g_iload 8 C rfl dX7_four_20 ?_
  refine g_callL C (c_X7_three g (σ := σ) (p1 := p2) (p2 := p3) (p3 := p4) (x1 := x1) (x2 := x2) (x3 := x3) (by omega) (by omega) (by omega) (by omega) (by omega) (by omega)) gv_X7_95 yd_X7_three ⟨by decide, by decide⟩ 0 7 (WD_get (by decide)) rfl rfl (Nat.le_of_ble_eq_true rfl) dX7_four_22 ?_
  rintro _ _ rfl
  refine g_lmul C dX7_four_25 ?_
  refine g_aload_n 0 C rfl dX7_four_26 rfl ?_
  refine gf_X7_35 C dX7_four_27 ?_
  refine g_iconst C dX7_four_30 ?_
  refine g_iload_n 2 C rfl dX7_four_31 rfl ?_
  refine g_imul C dX7_four_32 ?_
  refine g_iload 5 C rfl dX7_four_33 ?_
  refine g_iadd C dX7_four_35 ?_
  refine g_lald C 8 ((5 * p2) + x0) (by decide) (fun _ => rfl) (by omega) (by omega) (by decide) dX7_four_36 ?_
  refine g_aload_n 0 C rfl dX7_four_37 rfl ?_
  refine g_iload_n 1 C rfl dX7_four_38 rfl ?_
  refine g_iload_n 3 C rfl dX7_four_39 rfl ?_
  refine g_iload 4 C rfl dX7_four_40 ?_
  refine g_iload 6 C rfl dX7_four_42 ?_
  refine g_iload 7 C rfl dX7_four_44 ?_
  refine g_iload 8 C rfl dX7_four_46 ?_
  refine g_callL C (c_X7_three g (σ := σ) (p1 := p1) (p2 := p3) (p3 := p4) (x1 := x1) (x2 := x2) (x3 := x3) (by omega) (by omega) (by omega) (by omega) (by omega) (by omega)) gv_X7_95 yd_X7_three ⟨by decide, by decide⟩ 0 7 (WD_get (by decide)) rfl rfl (Nat.le_of_ble_eq_true rfl) dX7_four_48 ?_
  rintro _ _ rfl
  refine g_lmul C dX7_four_51 ?_
  refine g_lsub C dX7_four_52 ?_
  refine g_aload_n 0 C rfl dX7_four_53 rfl ?_
  refine gf_X7_35 C dX7_four_54 ?_
  refine g_iconst C dX7_four_57 ?_
  refine g_iload_n 3 C rfl dX7_four_58 rfl ?_
  refine g_imul C dX7_four_59 ?_
  refine g_iload 5 C rfl dX7_four_60 ?_
  refine g_iadd C dX7_four_62 ?_
  refine g_lald C 8 ((5 * p3) + x0) (by decide) (fun _ => rfl) (by omega) (by omega) (by decide) dX7_four_63 ?_
  refine g_aload_n 0 C rfl dX7_four_64 rfl ?_
  refine g_iload_n 1 C rfl dX7_four_65 rfl ?_
  refine g_iload_n 2 C rfl dX7_four_66 rfl ?_
  refine g_iload 4 C rfl dX7_four_67 ?_
  refine g_iload 6 C rfl dX7_four_69 ?_
  refine g_iload 7 C rfl dX7_four_71 ?_
  refine g_iload 8 C rfl dX7_four_73 ?_
  refine g_callL C (c_X7_three g (σ := σ) (p1 := p1) (p2 := p2) (p3 := p4) (x1 := x1) (x2 := x2) (x3 := x3) (by omega) (by omega) (by omega) (by omega) (by omega) (by omega)) gv_X7_95 yd_X7_three ⟨by decide, by decide⟩ 0 7 (WD_get (by decide)) rfl rfl (Nat.le_of_ble_eq_true rfl) dX7_four_75 ?_
  rintro _ _ rfl
  refine g_lmul C dX7_four_78 ?_
  refine g_ladd C dX7_four_79 ?_
  refine g_aload_n 0 C rfl dX7_four_80 rfl ?_
  refine gf_X7_35 C dX7_four_81 ?_
  refine g_iconst C dX7_four_84 ?_
  refine g_iload 4 C rfl dX7_four_85 ?_
  refine g_imul C dX7_four_87 ?_
  refine g_iload 5 C rfl dX7_four_88 ?_
  refine g_iadd C dX7_four_90 ?_
  refine g_lald C 8 ((5 * p4) + x0) (by decide) (fun _ => rfl) (by omega) (by omega) (by decide) dX7_four_91 ?_
  refine g_aload_n 0 C rfl dX7_four_92 rfl ?_
  refine g_iload_n 1 C rfl dX7_four_93 rfl ?_
  refine g_iload_n 2 C rfl dX7_four_94 rfl ?_
  refine g_iload_n 3 C rfl dX7_four_95 rfl ?_
  refine g_iload 6 C rfl dX7_four_96 ?_
  refine g_iload 7 C rfl dX7_four_98 ?_
  refine g_iload 8 C rfl dX7_four_100 ?_
  refine g_callL C (c_X7_three g (σ := σ) (p1 := p1) (p2 := p2) (p3 := p3) (x1 := x1) (x2 := x2) (x3 := x3) (by omega) (by omega) (by omega) (by omega) (by omega) (by omega)) gv_X7_95 yd_X7_three ⟨by decide, by decide⟩ 0 7 (WD_get (by decide)) rfl rfl (Nat.le_of_ble_eq_true rfl) dX7_four_102 ?_
  rintro _ _ rfl
  refine g_lmul C dX7_four_105 ?_
  refine g_lsub C dX7_four_106 ?_
  refine g_lret (u := ()) C T dX7_four_107 ?_
  exact ⟨_, rfl, rfl⟩
set_option maxHeartbeats 4000000 in
set_option maxRecDepth 20000 in
theorem c_X7_meetFour (g : Gx) {q : Nat → Nat} {σ : Nat → Nat → Int} {nr p1 p2 p3 p4 : Nat} (hn : σ 0 9 = (nr : Int)) (hn16 : nr ≤ 16) (hp : p1 < nr) (hq : p2 < nr) (hr : p3 < nr) (hs : p4 < nr) (hR : RBT σ nr) (hfb : FBd σ) : MC g yX7_meetFour cX7_meetFour 5 ((some .boolean)) 2 69 (WM g q σ) [.ref (q 0), .int (iZ (p1 : Int)), .int (iZ (p2 : Int)), .int (iZ (p3 : Int)), .int (iZ (p4 : Int))] (fun u => WM g q u) (pI (fun z u => M4 σ nr p1 p2 p3 p4 z u)) := by
  refine MC_intro (own := RX7) rfl (by decide) (Nat.le_of_ble_eq_true rfl) (fun K C T => ?_)
  show GJ g K (WM g q σ) 0 [(0, .ref (q 0)), (1, .int (iZ (p1 : Int))), (2, .int (iZ (p2 : Int))), (3, .int (iZ (p3 : Int))), (4, .int (iZ (p4 : Int)))] []
  refine g_aload_n 0 C rfl dX7_meetFour_0 rfl ?_
  refine g_aload_n 0 C rfl dX7_meetFour_1 rfl ?_
  refine g_iload_n 1 C rfl dX7_meetFour_2 rfl ?_
  refine g_iload_n 2 C rfl dX7_meetFour_3 rfl ?_
  refine g_iload_n 3 C rfl dX7_meetFour_4 rfl ?_
  refine g_iload 4 C rfl dX7_meetFour_5 ?_
  refine g_iconst C dX7_meetFour_7 ?_
  refine g_iconst C dX7_meetFour_8 ?_
  refine g_iconst C dX7_meetFour_9 ?_
  refine g_iconst C dX7_meetFour_10 ?_
  refine g_callL C (c_X7_four g (σ := σ) (p1 := p1) (p2 := p2) (p3 := p3) (p4 := p4) (x0 := 3) (x1 := 0) (x2 := 1) (x3 := 2) (by omega) (by omega) (by omega) (by omega) (by decide) (by decide) (by decide) (by decide)) gv_X7_187 yd_X7_four ⟨by decide, by decide⟩ 0 7 (WD_get (by decide)) rfl rfl (Nat.le_of_ble_eq_true rfl) dX7_meetFour_11 ?_
  rintro _ _ rfl
  rw [show det4 (rwf σ) p1 p2 p3 p4 3 0 1 2 = det4 (rwf σ) p1 p2 p3 p4 3 0 1 2 from rfl]
  refine g_lname (fun w1 ew1 => ?_)
  refine pf_X7_91 C dX7_meetFour_14 ?_
  refine g_aload_n 0 C rfl dX7_meetFour_17 rfl ?_
  refine gf_X7_91 C dX7_meetFour_18 ?_
  rw [show (up σ 0 11 w1) 0 11 = w1 from up_s _ _ _ _]
  refine g_lconst 0 C dX7_meetFour_21 (by decide) ?_
  refine g_lcmp_ne 28 C ((hR.d4 hp hq hr hs (w := 3) (x := 0) (y := 1) (z := 2) (by decide) (by decide) (by decide) (by decide)).I (by decide) |> fun h => by rw [← ew1] at h; exact h) (by unfold I64; omega) dX7_meetFour_22 dX7_meetFour_23 (by decide) (fun h2 => ?_) (fun h2 => ?_)
  · refine g_aload_n 0 C rfl dX7_meetFour_28 rfl ?_
    refine gf_X7_39 C dX7_meetFour_29 ?_
    refine g_iconst C dX7_meetFour_32 ?_
    refine g_aload_n 0 C rfl dX7_meetFour_33 rfl ?_
    refine g_iload_n 1 C rfl dX7_meetFour_34 rfl ?_
    refine g_iload_n 2 C rfl dX7_meetFour_35 rfl ?_
    refine g_iload_n 3 C rfl dX7_meetFour_36 rfl ?_
    refine g_iload 4 C rfl dX7_meetFour_37 ?_
    refine g_iconst C dX7_meetFour_39 ?_
    refine g_iconst C dX7_meetFour_40 ?_
    refine g_iconst C dX7_meetFour_41 ?_
    refine g_iconst C dX7_meetFour_42 ?_
    refine g_callL C (c_X7_four g (σ := (up σ 0 11 w1)) (p1 := p1) (p2 := p2) (p3 := p3) (p4 := p4) (x0 := 4) (x1 := 0) (x2 := 1) (x3 := 2) (by omega) (by omega) (by omega) (by omega) (by decide) (by decide) (by decide) (by decide)) gv_X7_187 yd_X7_four ⟨by decide, by decide⟩ 0 7 (WD_get (by decide)) rfl rfl (Nat.le_of_ble_eq_true rfl) dX7_meetFour_43 ?_
    rintro _ _ rfl
    rw [show det4 (rwf (up σ 0 11 w1)) p1 p2 p3 p4 4 0 1 2 = det4 (rwf σ) p1 p2 p3 p4 4 0 1 2 from rfl]
    refine g_lname (fun w3 ew3 => ?_)
    refine g_last C 9 3 (by decide) (fun _ => rfl) (by omega) (by omega) (by decide) dX7_meetFour_46 ?_
    refine g_aload_n 0 C rfl dX7_meetFour_47 rfl ?_
    refine gf_X7_39 C dX7_meetFour_48 ?_
    refine g_iconst C dX7_meetFour_51 ?_
    refine g_aload_n 0 C rfl dX7_meetFour_52 rfl ?_
    refine g_iload_n 1 C rfl dX7_meetFour_53 rfl ?_
    refine g_iload_n 2 C rfl dX7_meetFour_54 rfl ?_
    refine g_iload_n 3 C rfl dX7_meetFour_55 rfl ?_
    refine g_iload 4 C rfl dX7_meetFour_56 ?_
    refine g_iconst C dX7_meetFour_58 ?_
    refine g_iconst C dX7_meetFour_59 ?_
    refine g_iconst C dX7_meetFour_60 ?_
    refine g_iconst C dX7_meetFour_61 ?_
    refine g_callL C (c_X7_four g (σ := (up (up σ 0 11 w1) 9 3 w3)) (p1 := p1) (p2 := p2) (p3 := p3) (p4 := p4) (x0 := 3) (x1 := 4) (x2 := 1) (x3 := 2) (by omega) (by omega) (by omega) (by omega) (by decide) (by decide) (by decide) (by decide)) gv_X7_187 yd_X7_four ⟨by decide, by decide⟩ 0 7 (WD_get (by decide)) rfl rfl (Nat.le_of_ble_eq_true rfl) dX7_meetFour_62 ?_
    rintro _ _ rfl
    rw [show det4 (rwf (up (up σ 0 11 w1) 9 3 w3)) p1 p2 p3 p4 3 4 1 2 = det4 (rwf σ) p1 p2 p3 p4 3 4 1 2 from rfl]
    refine g_lname (fun w4 ew4 => ?_)
    refine g_last C 9 0 (by decide) (fun _ => rfl) (by omega) (by omega) (by decide) dX7_meetFour_65 ?_
    refine g_aload_n 0 C rfl dX7_meetFour_66 rfl ?_
    refine gf_X7_39 C dX7_meetFour_67 ?_
    refine g_iconst C dX7_meetFour_70 ?_
    refine g_aload_n 0 C rfl dX7_meetFour_71 rfl ?_
    refine g_iload_n 1 C rfl dX7_meetFour_72 rfl ?_
    refine g_iload_n 2 C rfl dX7_meetFour_73 rfl ?_
    refine g_iload_n 3 C rfl dX7_meetFour_74 rfl ?_
    refine g_iload 4 C rfl dX7_meetFour_75 ?_
    refine g_iconst C dX7_meetFour_77 ?_
    refine g_iconst C dX7_meetFour_78 ?_
    refine g_iconst C dX7_meetFour_79 ?_
    refine g_iconst C dX7_meetFour_80 ?_
    refine g_callL C (c_X7_four g (σ := (up (up (up σ 0 11 w1) 9 3 w3) 9 0 w4)) (p1 := p1) (p2 := p2) (p3 := p3) (p4 := p4) (x0 := 3) (x1 := 0) (x2 := 4) (x3 := 2) (by omega) (by omega) (by omega) (by omega) (by decide) (by decide) (by decide) (by decide)) gv_X7_187 yd_X7_four ⟨by decide, by decide⟩ 0 7 (WD_get (by decide)) rfl rfl (Nat.le_of_ble_eq_true rfl) dX7_meetFour_81 ?_
    rintro _ _ rfl
    rw [show det4 (rwf (up (up (up σ 0 11 w1) 9 3 w3) 9 0 w4)) p1 p2 p3 p4 3 0 4 2 = det4 (rwf σ) p1 p2 p3 p4 3 0 4 2 from rfl]
    refine g_lname (fun w5 ew5 => ?_)
    refine g_last C 9 1 (by decide) (fun _ => rfl) (by omega) (by omega) (by decide) dX7_meetFour_84 ?_
    refine g_aload_n 0 C rfl dX7_meetFour_85 rfl ?_
    refine gf_X7_39 C dX7_meetFour_86 ?_
    refine g_iconst C dX7_meetFour_89 ?_
    refine g_aload_n 0 C rfl dX7_meetFour_90 rfl ?_
    refine g_iload_n 1 C rfl dX7_meetFour_91 rfl ?_
    refine g_iload_n 2 C rfl dX7_meetFour_92 rfl ?_
    refine g_iload_n 3 C rfl dX7_meetFour_93 rfl ?_
    refine g_iload 4 C rfl dX7_meetFour_94 ?_
    refine g_iconst C dX7_meetFour_96 ?_
    refine g_iconst C dX7_meetFour_97 ?_
    refine g_iconst C dX7_meetFour_98 ?_
    refine g_iconst C dX7_meetFour_99 ?_
    refine g_callL C (c_X7_four g (σ := (up (up (up (up σ 0 11 w1) 9 3 w3) 9 0 w4) 9 1 w5)) (p1 := p1) (p2 := p2) (p3 := p3) (p4 := p4) (x0 := 3) (x1 := 0) (x2 := 1) (x3 := 4) (by omega) (by omega) (by omega) (by omega) (by decide) (by decide) (by decide) (by decide)) gv_X7_187 yd_X7_four ⟨by decide, by decide⟩ 0 7 (WD_get (by decide)) rfl rfl (Nat.le_of_ble_eq_true rfl) dX7_meetFour_100 ?_
    rintro _ _ rfl
    rw [show det4 (rwf (up (up (up (up σ 0 11 w1) 9 3 w3) 9 0 w4) 9 1 w5)) p1 p2 p3 p4 3 0 1 4 = det4 (rwf σ) p1 p2 p3 p4 3 0 1 4 from rfl]
    refine g_lname (fun w6 ew6 => ?_)
    refine g_last C 9 2 (by decide) (fun _ => rfl) (by omega) (by omega) (by decide) dX7_meetFour_103 ?_
    refine g_aload_n 0 C rfl dX7_meetFour_104 rfl ?_
    refine g_callV C (c_X7_turnSpot g (σ := (up (up (up (up (up σ 0 11 w1) 9 3 w3) 9 0 w4) 9 1 w5) 9 2 w6)) ((hR.d4 hp hq hr hs (w := 3) (x := 0) (y := 1) (z := 2) (by decide) (by decide) (by decide) (by decide)).I (by decide) |> fun h => by rw [← ew1] at h; exact h)) gv_X7_99 yd_X7_turnSpot ⟨by decide, by decide⟩ 0 7 (WD_get (by decide)) rfl rfl (Nat.le_of_ble_eq_true rfl) dX7_meetFour_105 ?_
    rintro u1 ⟨hF1, hc1⟩
    obtain ⟨s1, hs1, h01, h11, h91⟩ := ts_s hc1
    obtain ⟨hF2, hw2, hV2, hb4, hb3, hB2⟩ := m4_in hR hp hq hr hs ew1 h2 ew3 ew4 ew5 ew6 hF1 hs1 h01 h11 h91
    have hd2 := hV2.1
    have gp := gcZ_pos (a := u1 9 3) hd2
    obtain ⟨gd1, gd2⟩ := gcZ_div (a := u1 9 3) (b := u1 0 11)
    have hq1 := hb4.quo gp.1 gd1
    have hq2 := hb3.quo gp.1 gd2
    have hq3 : 0 < (u1 0 11).tdiv (gcZ (u1 9 3) (u1 0 11)) := by
      rcases (show (u1 0 11).tdiv (gcZ (u1 9 3) (u1 0 11)) ≤ 0 ∨ 0 < (u1 0 11).tdiv (gcZ (u1 9 3) (u1 0 11)) by omega) with h | h
      · have := Int.mul_nonpos_of_nonpos_of_nonneg h (Int.le_of_lt gp.1); omega
      · exact h
    refine g_aload_n 0 C rfl dX7_meetFour_108 rfl ?_
    refine gf_X7_191 C dX7_meetFour_109 ?_
    rw [show u1 0 20 = σ 0 20 from hF2.2 20 (by decide)]
    refine g_lconst 0 C dX7_meetFour_112 (by decide) ?_
    refine g_lcmp_le 171 C (by rcases hfb with h | ⟨h, h8, _⟩ <;> unfold I64 <;> unfold Bd at * <;> omega) (by unfold I64; omega) dX7_meetFour_113 dX7_meetFour_114 (by decide) (fun h7 => ?_) (fun h7 => ?_)
    · refine g_aload_n 0 C rfl dX7_meetFour_171 rfl ?_
      refine g_callI C (c_X7_keepsAll g (σ := u1) (nr := nr) ((hF2.2 9 (by decide)).trans hn) hn16 hB2) gv_X7_102 yd_X7_keepsAll ⟨by decide, by decide⟩ 0 7 (WD_get (by decide)) rfl rfl (Nat.le_of_ble_eq_true rfl) dX7_meetFour_172 ?_
      rintro _ _ rfl
      rw [keeps_T hw2]
      refine g_zret (u := u1) C T dX7_meetFour_175 (bZ_or _) ?_
      refine ⟨_, rfl, hF2, Or.inr ⟨hV2, hb4, hb3, ?_⟩⟩
      congr 1
      exact propext ⟨fun h => ⟨(fun h => absurd h.1 (by omega)), h⟩, fun h => h.2⟩
    · refine g_aload_n 0 C rfl dX7_meetFour_117 rfl ?_
      refine gf_X7_39 C dX7_meetFour_118 ?_
      refine g_iconst C dX7_meetFour_121 ?_
      refine g_lald C 9 3 (by decide) (fun _ => rfl) (by omega) (by omega) (by decide) dX7_meetFour_122 ?_
      refine g_aload_n 0 C rfl dX7_meetFour_123 rfl ?_
      refine gf_X7_39 C dX7_meetFour_124 ?_
      refine g_iconst C dX7_meetFour_127 ?_
      refine g_lald C 9 3 (by decide) (fun _ => rfl) (by omega) (by omega) (by decide) dX7_meetFour_128 ?_
      refine g_aload_n 0 C rfl dX7_meetFour_129 rfl ?_
      refine gf_X7_91 C dX7_meetFour_130 ?_
      refine g_callSL C (c_X7_common g (a := u1 9 3) (b := u1 0 11) (hb4.M (by decide)) (hb3.M (by decide))) gs_X7_125 yd_X7_common ⟨by decide, by decide⟩ rfl (Nat.le_of_ble_eq_true rfl) dX7_meetFour_133 ?_
      rintro _ rfl
      change GJ g K _ _ _ (.long (lZ (gcZ (u1 9 3) (u1 0 11))) :: _)
      refine g_ldiv C dX7_meetFour_136 (hb4.I (by decide)) (by have h8 := hb3.2; unfold I64; omega) (by omega) ?_
      refine g_aload_n 0 C rfl dX7_meetFour_137 rfl ?_
      refine gf_X7_91 C dX7_meetFour_138 ?_
      refine g_aload_n 0 C rfl dX7_meetFour_141 rfl ?_
      refine gf_X7_39 C dX7_meetFour_142 ?_
      refine g_iconst C dX7_meetFour_145 ?_
      refine g_lald C 9 3 (by decide) (fun _ => rfl) (by omega) (by omega) (by decide) dX7_meetFour_146 ?_
      refine g_aload_n 0 C rfl dX7_meetFour_147 rfl ?_
      refine gf_X7_91 C dX7_meetFour_148 ?_
      refine g_callSL C (c_X7_common g (a := u1 9 3) (b := u1 0 11) (hb4.M (by decide)) (hb3.M (by decide))) gs_X7_125 yd_X7_common ⟨by decide, by decide⟩ rfl (Nat.le_of_ble_eq_true rfl) dX7_meetFour_151 ?_
      rintro _ rfl
      change GJ g K _ _ _ (.long (lZ (gcZ (u1 9 3) (u1 0 11))) :: _)
      refine g_ldiv C dX7_meetFour_154 (hb3.I (by decide)) (by have h8 := hb3.2; unfold I64; omega) (by omega) ?_
      refine g_aload_n 0 C rfl dX7_meetFour_155 rfl ?_
      refine gf_X7_194 C dX7_meetFour_156 ?_
      rw [show u1 0 19 = σ 0 19 from hF2.2 19 (by decide)]
      refine g_aload_n 0 C rfl dX7_meetFour_159 rfl ?_
      refine gf_X7_191 C dX7_meetFour_160 ?_
      rw [show u1 0 20 = σ 0 20 from hF2.2 20 (by decide)]
      obtain ⟨hf1, hf2, hf3⟩ := hfb.resolve_left (by omega)
      refine g_callSI C (c_X7_compare g (a := (u1 9 3).tdiv (gcZ (u1 9 3) (u1 0 11))) (x := (u1 0 11).tdiv (gcZ (u1 9 3) (u1 0 11))) (b := σ 0 19) (y := σ 0 20) hq3 hf1 (hq1.M (by decide)) (hq2.M (by decide)).2 (hf3.M (by decide)) (hf2.M (by decide)).2) gs_X7_131 yd_X7_compare ⟨by decide, by decide⟩ rfl (Nat.le_of_ble_eq_true rfl) dX7_meetFour_163 ?_
      rintro _ rfl
      have hcz := cmpZ_I (((u1 9 3).tdiv (gcZ (u1 9 3) (u1 0 11))) * (σ 0 20)) ((σ 0 19) * ((u1 0 11).tdiv (gcZ (u1 9 3) (u1 0 11))))
      have hcn := @cmpZ_neg (((u1 9 3).tdiv (gcZ (u1 9 3) (u1 0 11))) * (σ 0 20)) ((σ 0 19) * ((u1 0 11).tdiv (gcZ (u1 9 3) (u1 0 11))))
      have hce : σ 0 19 * u1 0 11 ≤ u1 9 3 * σ 0 20 ↔ (σ 0 19) * ((u1 0 11).tdiv (gcZ (u1 9 3) (u1 0 11))) ≤ ((u1 9 3).tdiv (gcZ (u1 9 3) (u1 0 11))) * (σ 0 20) := by
        have h8 := zc_le (a := (σ 0 19) * ((u1 0 11).tdiv (gcZ (u1 9 3) (u1 0 11)))) (b := ((u1 9 3).tdiv (gcZ (u1 9 3) (u1 0 11))) * (σ 0 20)) gp.1
        rw [← h8, show (σ 0 19) * ((u1 0 11).tdiv (gcZ (u1 9 3) (u1 0 11))) * gcZ (u1 9 3) (u1 0 11) = (σ 0 19) * (((u1 0 11).tdiv (gcZ (u1 9 3) (u1 0 11))) * gcZ (u1 9 3) (u1 0 11)) from Int.mul_assoc _ _ _, gd2, show ((u1 9 3).tdiv (gcZ (u1 9 3) (u1 0 11))) * (σ 0 20) * gcZ (u1 9 3) (u1 0 11) = ((u1 9 3).tdiv (gcZ (u1 9 3) (u1 0 11))) * gcZ (u1 9 3) (u1 0 11) * (σ 0 20) from Int.mul_right_comm _ _ _, gd1]
      refine g_if_lt 171 C (by unfold I32; omega) dX7_meetFour_166 (by decide) (fun h8 => ?_) (fun h8 => ?_)
      · refine g_aload_n 0 C rfl dX7_meetFour_171 rfl ?_
        refine g_callI C (c_X7_keepsAll g (σ := u1) (nr := nr) ((hF2.2 9 (by decide)).trans hn) hn16 hB2) gv_X7_102 yd_X7_keepsAll ⟨by decide, by decide⟩ 0 7 (WD_get (by decide)) rfl rfl (Nat.le_of_ble_eq_true rfl) dX7_meetFour_172 ?_
        rintro _ _ rfl
        rw [keeps_T hw2]
        refine g_zret (u := u1) C T dX7_meetFour_175 (bZ_or _) ?_
        refine ⟨_, rfl, hF2, Or.inr ⟨hV2, hb4, hb3, ?_⟩⟩
        congr 1
        exact propext ⟨fun h => ⟨(fun h => by have := hce.mp h.2; omega), h⟩, fun h => h.2⟩
      · refine g_iconst C dX7_meetFour_169 ?_
        refine g_zret (u := u1) C T dX7_meetFour_170 (by omega) ?_
        exact ⟨_, rfl, hF2, Or.inr ⟨hV2, hb4, hb3, (bZ_f (fun h => h.1 ⟨by omega, hce.mpr (by omega)⟩)).symm⟩⟩
  · refine g_iconst C dX7_meetFour_26 ?_
    refine g_zret (u := (up σ 0 11 w1)) C T dX7_meetFour_27 (by omega) ?_
    exact ⟨_, rfl, ⟨fun c h8 _ => up_c h8, fun j h9 => up_k h9⟩, Or.inl ⟨by rw [← ew1]; exact h2, (bZ_f id).symm⟩⟩
