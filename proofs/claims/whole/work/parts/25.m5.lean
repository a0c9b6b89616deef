def Bd (z A : Int) : Prop := -A ≤ z ∧ z ≤ A
theorem Bd.mul {a b A B : Int} (ha : Bd a A) (hb : Bd b B) : Bd (a * b) (A * B) := by
  have h1 : 0 ≤ (A - a) * (B + b) := Int.mul_nonneg (by have := ha.2; omega) (by have := hb.1; omega)
  have h2 : 0 ≤ (A + a) * (B - b) := Int.mul_nonneg (by have := ha.1; omega) (by have := hb.2; omega)
  have h3 : 0 ≤ (A - a) * (B - b) := Int.mul_nonneg (by have := ha.2; omega) (by have := hb.2; omega)
  have h4 : 0 ≤ (A + a) * (B + b) := Int.mul_nonneg (by have := ha.1; omega) (by have := hb.1; omega)
  exact ⟨by grind, by grind⟩
theorem Bd.add {a b A B : Int} (ha : Bd a A) (hb : Bd b B) : Bd (a + b) (A + B) := ⟨by have := ha.1; have := hb.1; omega, by have := ha.2; have := hb.2; omega⟩
theorem Bd.sub {a b A B : Int} (ha : Bd a A) (hb : Bd b B) : Bd (a - b) (A + B) := ⟨by have := ha.1; have := hb.2; omega, by have := ha.2; have := hb.1; omega⟩
theorem Bd.neg {a A : Int} (ha : Bd a A) : Bd (-a) A := ⟨by have := ha.2; omega, by have := ha.1; omega⟩
theorem Bd.mono {a A B : Int} (ha : Bd a A) (h : A ≤ B) : Bd a B := ⟨by have := ha.1; omega, by have := ha.2; omega⟩
theorem Bd.I {a A : Int} (ha : Bd a A) (h : A < 9223372036854775808) : I64 a := ⟨by have := ha.1; omega, by have := ha.2; omega⟩
theorem Bd.M {a A : Int} (ha : Bd a A) (h : A < 4611686018427387904) : -4611686018427387904 < a ∧ a < 4611686018427387904 := ⟨by have := ha.1; omega, by have := ha.2; omega⟩
theorem Bd.sg {a A s : Int} (ha : Bd a A) (hs : s = 1 ∨ s = -1) : Bd (s * a) A := by
  rcases hs with rfl | rfl
  · rw [Int.one_mul]; exact ha
  · rw [Int.neg_mul, Int.one_mul]; exact ha.neg
theorem Bd.z {A : Int} (h : 0 ≤ A) : Bd 0 A := ⟨by omega, by omega⟩
theorem det3_bd {f : Nat → Nat → Int} {p q r x y z : Nat} {A B C : Int} (hp : Bd (f p x) A ∧ Bd (f p y) B ∧ Bd (f p z) C) (hq : Bd (f q x) A ∧ Bd (f q y) B ∧ Bd (f q z) C) (hr : Bd (f r x) A ∧ Bd (f r y) B ∧ Bd (f r z) C) : Bd (det3 f p q r x y z) (6 * (A * (B * C))) := by
  have h := ((hp.1.mul ((hq.2.1.mul hr.2.2).sub (hq.2.2.mul hr.2.1))).sub (hp.2.1.mul ((hq.1.mul hr.2.2).sub (hq.2.2.mul hr.1)))).add (hp.2.2.mul ((hq.1.mul hr.2.1).sub (hq.2.1.mul hr.1)))
  exact h.mono (by grind)
def RBF (σ : Nat → Nat → Int) (nr : Nat) : Prop := ∀ r, r < nr → Bd (rwf σ r 0) 20 ∧ Bd (rwf σ r 1) 20 ∧ Bd (rwf σ r 2) 40000 ∧ rwf σ r 3 = 0 ∧ Bd (rwf σ r 4) 400
theorem RBF.d012 {σ : Nat → Nat → Int} {nr p q r : Nat} (h : RBF σ nr) (hp : p < nr) (hq : q < nr) (hr : r < nr) : Bd (det3 (rwf σ) p q r 0 1 2) 96000000 := (det3_bd (A := 20) (B := 20) (C := 40000) ⟨(h p hp).1, (h p hp).2.1, (h p hp).2.2.1⟩ ⟨(h q hq).1, (h q hq).2.1, (h q hq).2.2.1⟩ ⟨(h r hr).1, (h r hr).2.1, (h r hr).2.2.1⟩).mono (by decide)
theorem RBF.d412 {σ : Nat → Nat → Int} {nr p q r : Nat} (h : RBF σ nr) (hp : p < nr) (hq : q < nr) (hr : r < nr) : Bd (det3 (rwf σ) p q r 4 1 2) 1920000000 := (det3_bd (A := 400) (B := 20) (C := 40000) ⟨(h p hp).2.2.2.2, (h p hp).2.1, (h p hp).2.2.1⟩ ⟨(h q hq).2.2.2.2, (h q hq).2.1, (h q hq).2.2.1⟩ ⟨(h r hr).2.2.2.2, (h r hr).2.1, (h r hr).2.2.1⟩).mono (by decide)
theorem RBF.d042 {σ : Nat → Nat → Int} {nr p q r : Nat} (h : RBF σ nr) (hp : p < nr) (hq : q < nr) (hr : r < nr) : Bd (det3 (rwf σ) p q r 0 4 2) 1920000000 := (det3_bd (A := 20) (B := 400) (C := 40000) ⟨(h p hp).1, (h p hp).2.2.2.2, (h p hp).2.2.1⟩ ⟨(h q hq).1, (h q hq).2.2.2.2, (h q hq).2.2.1⟩ ⟨(h r hr).1, (h r hr).2.2.2.2, (h r hr).2.2.1⟩).mono (by decide)
theorem RBF.d014 {σ : Nat → Nat → Int} {nr p q r : Nat} (h : RBF σ nr) (hp : p < nr) (hq : q < nr) (hr : r < nr) : Bd (det3 (rwf σ) p q r 0 1 4) 960000 := (det3_bd (A := 20) (B := 20) (C := 400) ⟨(h p hp).1, (h p hp).2.1, (h p hp).2.2.2.2⟩ ⟨(h q hq).1, (h q hq).2.1, (h q hq).2.2.2.2⟩ ⟨(h r hr).1, (h r hr).2.1, (h r hr).2.2.2.2⟩).mono (by decide)
theorem FrS.rw {σ u : Nat → Nat → Int} (h : FrS σ u) : rwf u = rwf σ := by
  funext r c
  unfold rwf
  rw [h.1 8 (by decide) (by decide)]
theorem ts_s {τ u : Nat → Nat → Int} (h : (0 ≤ τ 0 11 ∧ u = τ) ∨ (τ 0 11 < 0 ∧ u 0 11 = -τ 0 11 ∧ ∀ c, c < 4 → u 9 c = -τ 9 c)) : ∃ s : Int, (s = 1 ∨ s = -1) ∧ 0 ≤ s * τ 0 11 ∧ u 0 11 = s * τ 0 11 ∧ ∀ c, c < 4 → u 9 c = s * τ 9 c := by
  rcases h with ⟨h1, rfl⟩ | ⟨h1, h2, h3⟩
  · exact ⟨1, Or.inl rfl, by omega, by omega, fun c _ => by omega⟩
  · exact ⟨-1, Or.inr rfl, by omega, by omega, fun c hc => by rw [h3 c hc]; omega⟩
/-- the point where three rows meet: a, b, k by d, d above 0 -/
def Vx (f : Nat → Nat → Int) (p q r : Nat) (a b k d : Int) : Prop := 0 < d ∧ ∃ s : Int, (s = 1 ∨ s = -1) ∧ d = s * det3 f p q r 0 1 2 ∧ a = s * det3 f p q r 4 1 2 ∧ b = s * det3 f p q r 0 4 2 ∧ k = s * det3 f p q r 0 1 4
def KpF (f : Nat → Nat → Int) (nr : Nat) (a b k d : Int) : Prop := ∀ r, r < nr → f r 4 * d ≤ f r 0 * a + f r 1 * b + f r 2 * k
def MT (σ : Nat → Nat → Int) (nr p q r : Nat) (z : Int) (u : Nat → Nat → Int) : Prop := FrS σ u ∧ ((det3 (rwf σ) p q r 0 1 2 = 0 ∧ z = bZ False) ∨ (Vx (rwf σ) p q r (u 9 0) (u 9 1) (u 9 2) (u 0 11) ∧ Bd (u 9 0) 1920000000 ∧ Bd (u 9 1) 1920000000 ∧ Bd (u 9 2) 960000 ∧ Bd (u 0 11) 96000000 ∧ z = bZ (KpF (rwf σ) nr (u 9 0) (u 9 1) (u 9 2) (u 0 11))))
theorem mt_in {σ u : Nat → Nat → Int} {nr p q r : Nat} {D A B Kk s : Int} (hR : RBF σ nr) (hp : p < nr) (hq : q < nr) (hr : r < nr) (hD : D = det3 (rwf σ) p q r 0 1 2) (hD0 : D ≠ 0) (hA : A = det3 (rwf σ) p q r 4 1 2) (hB : B = det3 (rwf σ) p q r 0 4 2) (hK : Kk = det3 (rwf σ) p q r 0 1 4) (hF : FrS (up (up (up (up (up σ 0 11 D) 9 0 A) 9 1 B) 9 2 Kk) 9 3 0) u) (hs : s = 1 ∨ s = -1) (h0 : 0 ≤ s * D) (h1 : u 0 11 = s * D) (h2 : ∀ c, c < 4 → u 9 c = s * (up (up (up (up (up σ 0 11 D) 9 0 A) 9 1 B) 9 2 Kk) 9 3 0) 9 c) :
    FrS σ u ∧ rwf u = rwf σ ∧ Vx (rwf σ) p q r (u 9 0) (u 9 1) (u 9 2) (u 0 11) ∧ Bd (u 9 0) 1920000000 ∧ Bd (u 9 1) 1920000000 ∧ Bd (u 9 2) 960000 ∧ Bd (u 0 11) 96000000 ∧ u 9 3 = 0 ∧ (∀ r, r < nr → I64 (lin u r) ∧ I64 (rwf u r 4 * u 0 11)) := by
  have e0 : u 9 0 = s * A := h2 0 (by decide)
  have e1 : u 9 1 = s * B := h2 1 (by decide)
  have e2 : u 9 2 = s * Kk := h2 2 (by decide)
  have e3 : u 9 3 = 0 := (h2 3 (by decide)).trans (Int.mul_zero s)
  have hF2 : FrS σ u := ⟨fun c h8 h9 => by rw [hF.1 c h8 h9]; simp [up, h8, h9], fun j h9 => by rw [hF.2 j h9]; simp [up, updI, h9]⟩
  have b0 : Bd (u 9 0) 1920000000 := by rw [e0, hA]; exact (hR.d412 hp hq hr).sg hs
  have b1 : Bd (u 9 1) 1920000000 := by rw [e1, hB]; exact (hR.d042 hp hq hr).sg hs
  have b2 : Bd (u 9 2) 960000 := by rw [e2, hK]; exact (hR.d014 hp hq hr).sg hs
  have b3 : Bd (u 0 11) 96000000 := by rw [h1, hD]; exact (hR.d012 hp hq hr).sg hs
  refine ⟨hF2, hF2.rw, ⟨by rw [h1]; rcases hs with rfl | rfl <;> omega, s, hs, by rw [h1, hD], by rw [e0, hA], by rw [e1, hB], by rw [e2, hK]⟩, b0, b1, b2, b3, e3, fun r9 h9 => ?_⟩
  obtain ⟨c0, c1, c2, c3, c4⟩ := hR r9 h9
  rw [← hF2.rw] at c0 c1 c2 c3 c4
  refine ⟨?_, (c4.mul b3).I (by decide)⟩
  unfold lin
  rw [c3, Int.zero_mul]
  exact ((((c0.mul b0).add (c1.mul b1)).add (c2.mul b2)).add (Bd.z (A := 0) (by decide))).I (by decide)
theorem keeps_F {σ u : Nat → Nat → Int} {nr : Nat} (hR : RBF σ nr) (hw : rwf u = rwf σ) : bZ (Keeps u nr) = bZ (KpF (rwf σ) nr (u 9 0) (u 9 1) (u 9 2) (u 0 11)) := by
  have e : Keeps u nr ↔ KpF (rwf σ) nr (u 9 0) (u 9 1) (u 9 2) (u 0 11) := by
    unfold Keeps KpF lin
    rw [hw]
    refine ⟨fun h r hr => ?_, fun h r hr => ?_⟩
    · have h1 := h r hr
      rw [(hR r hr).2.2.2.1] at h1
      omega
    · have h1 := h r hr
      rw [(hR r hr).2.2.2.1]
      omega
  rw [propext e]
set_option maxHeartbeats 4000000 in
set_option maxRecDepth 20000 in
theorem c_X7_meetThree (g : Gx) {q : Nat → Nat} {σ : Nat → Nat → Int} {nr p1 p2 p3 : Nat} (hn : σ 0 9 = (nr : Int)) (hn16 : nr ≤ 16) (hp : p1 < nr) (hq : p2 < nr) (hr : p3 < nr) (hR : RBF σ nr) : MC g yX7_meetThree cX7_meetThree 4 ((some .boolean)) 1 32 (WM g q σ) [.ref (q 0), .int (iZ (p1 : Int)), .int (iZ (p2 : Int)), .int (iZ (p3 : Int))] (fun u => WM g q u) (pI (fun z u => MT σ nr p1 p2 p3 z u)) := by
  refine MC_intro (own := RX7) rfl (by decide) (Nat.le_of_ble_eq_true rfl) (fun K C T => ?_)
  show GJ g K (WM g q σ) 0 [(0, .ref (q 0)), (1, .int (iZ (p1 : Int))), (2, .int (iZ (p2 : Int))), (3, .int (iZ (p3 : Int)))] []
  refine g_aload_n 0 C rfl dX7_meetThree_0 rfl ?_
  refine g_aload_n 0 C rfl dX7_meetThree_1 rfl ?_
  refine g_iload_n 1 C rfl dX7_meetThree_2 rfl ?_
  refine g_iload_n 2 C rfl dX7_meetThree_3 rfl ?_
  refine g_iload_n 3 C rfl dX7_meetThree_4 rfl ?_
  refine g_iconst C dX7_meetThree_5 ?_
  refine g_iconst C dX7_meetThree_6 ?_
  refine g_iconst C dX7_meetThree_7 ?_
  refine g_callL C (c_X7_three g (σ := σ) (p1 := p1) (p2 := p2) (p3 := p3) (x1 := 0) (x2 := 1) (x3 := 2) (by omega) (by omega) (by omega) (by decide) (by decide) (by decide)) gv_X7_95 yd_X7_three ⟨by decide, by decide⟩ 0 7 (WD_get (by decide)) rfl rfl (Nat.le_of_ble_eq_true rfl) dX7_meetThree_8 ?_
  rintro _ _ rfl
  rw [show det3 (rwf σ) p1 p2 p3 0 1 2 = det3 (rwf σ) p1 p2 p3 0 1 2 from rfl]
  refine g_lname (fun w1 ew1 => ?_)
  refine pf_X7_91 C dX7_meetThree_11 ?_
  refine g_aload_n 0 C rfl dX7_meetThree_14 rfl ?_
  refine gf_X7_91 C dX7_meetThree_15 ?_
  rw [show (up σ 0 11 w1) 0 11 = w1 from up_s _ _ _ _]
  refine g_lconst 0 C dX7_meetThree_18 (by decide) ?_
  refine g_lcmp_ne 25 C ((hR.d012 hp hq hr).I (by decide) |> fun h => by rw [← ew1] at h; exact h) (by unfold I64; omega) dX7_meetThree_19 dX7_meetThree_20 (by decide) (fun h2 => ?_) (fun h2 => ?_)
  · refine g_aload_n 0 C rfl dX7_meetThree_25 rfl ?_
    refine gf_X7_39 C dX7_meetThree_26 ?_
    refine g_iconst C dX7_meetThree_29 ?_
    refine g_aload_n 0 C rfl dX7_meetThree_30 rfl ?_
    refine g_iload_n 1 C rfl dX7_meetThree_31 rfl ?_
    refine g_iload_n 2 C rfl dX7_meetThree_32 rfl ?_
    refine g_iload_n 3 C rfl dX7_meetThree_33 rfl ?_
    refine g_iconst C dX7_meetThree_34 ?_
    refine g_iconst C dX7_meetThree_35 ?_
    refine g_iconst C dX7_meetThree_36 ?_
    refine g_callL C (c_X7_three g (σ := (up σ 0 11 w1)) (p1 := p1) (p2 := p2) (p3 := p3) (x1 := 4) (x2 := 1) (x3 := 2) (by omega) (by omega) (by omega) (by decide) (by decide) (by decide)) gv_X7_95 yd_X7_three ⟨by decide, by decide⟩ 0 7 (WD_get (by decide)) rfl rfl (Nat.le_of_ble_eq_true rfl) dX7_meetThree_37 ?_
    rintro _ _ rfl
    rw [show det3 (rwf (up σ 0 11 w1)) p1 p2 p3 4 1 2 = det3 (rwf σ) p1 p2 p3 4 1 2 from rfl]
    refine g_lname (fun w3 ew3 => ?_)
    refine g_last C 9 0 (by decide) (fun _ => rfl) (by omega) (by omega) (by decide) dX7_meetThree_40 ?_
    refine g_aload_n 0 C rfl dX7_meetThree_41 rfl ?_
    refine gf_X7_39 C dX7_meetThree_42 ?_
    refine g_iconst C dX7_meetThree_45 ?_
    refine g_aload_n 0 C rfl dX7_meetThree_46 rfl ?_
    refine g_iload_n 1 C rfl dX7_meetThree_47 rfl ?_
    refine g_iload_n 2 C rfl dX7_meetThree_48 rfl ?_
    refine g_iload_n 3 C rfl dX7_meetThree_49 rfl ?_
    refine g_iconst C dX7_meetThree_50 ?_
    refine g_iconst C dX7_meetThree_51 ?_
    refine g_iconst C dX7_meetThree_52 ?_
    refine g_callL C (c_X7_three g (σ := (up (up σ 0 11 w1) 9 0 w3)) (p1 := p1) (p2 := p2) (p3 := p3) (x1 := 0) (x2 := 4) (x3 := 2) (by omega) (by omega) (by omega) (by decide) (by decide) (by decide)) gv_X7_95 yd_X7_three ⟨by decide, by decide⟩ 0 7 (WD_get (by decide)) rfl rfl (Nat.le_of_ble_eq_true rfl) dX7_meetThree_53 ?_
    rintro _ _ rfl
    rw [show det3 (rwf (up (up σ 0 11 w1) 9 0 w3)) p1 p2 p3 0 4 2 = det3 (rwf σ) p1 p2 p3 0 4 2 from rfl]
    refine g_lname (fun w4 ew4 => ?_)
    refine g_last C 9 1 (by decide) (fun _ => rfl) (by omega) (by omega) (by decide) dX7_meetThree_56 ?_
    refine g_aload_n 0 C rfl dX7_meetThree_57 rfl ?_
    refine gf_X7_39 C dX7_meetThree_58 ?_
    refine g_iconst C dX7_meetThree_61 ?_
    refine g_aload_n 0 C rfl dX7_meetThree_62 rfl ?_
    refine g_iload_n 1 C rfl dX7_meetThree_63 rfl ?_
    refine g_iload_n 2 C rfl dX7_meetThree_64 rfl ?_
    refine g_iload_n 3 C rfl dX7_meetThree_65 rfl ?_
    refine g_iconst C dX7_meetThree_66 ?_
    refine g_iconst C dX7_meetThree_67 ?_
    refine g_iconst C dX7_meetThree_68 ?_
    refine g_callL C (c_X7_three g (σ := (up (up (up σ 0 11 w1) 9 0 w3) 9 1 w4)) (p1 := p1) (p2 := p2) (p3 := p3) (x1 := 0) (x2 := 1) (x3 := 4) (by omega) (by omega) (by omega) (by decide) (by decide) (by decide)) gv_X7_95 yd_X7_three ⟨by decide, by decide⟩ 0 7 (WD_get (by decide)) rfl rfl (Nat.le_of_ble_eq_true rfl) dX7_meetThree_69 ?_
    rintro _ _ rfl
    rw [show det3 (rwf (up (up (up σ 0 11 w1) 9 0 w3) 9 1 w4)) p1 p2 p3 0 1 4 = det3 (rwf σ) p1 p2 p3 0 1 4 from rfl]
    refine g_lname (fun w5 ew5 => ?_)
    refine g_last C 9 2 (by decide) (fun _ => rfl) (by omega) (by omega) (by decide) dX7_meetThree_72 ?_
    refine g_aload_n 0 C rfl dX7_meetThree_73 rfl ?_
    refine gf_X7_39 C dX7_meetThree_74 ?_
    refine g_iconst C dX7_meetThree_77 ?_
    refine g_lconst 0 C dX7_meetThree_78 (by decide) ?_
    refine g_last C 9 3 (by decide) (fun _ => rfl) (by omega) (by omega) (by decide) dX7_meetThree_79 ?_
    refine g_aload_n 0 C rfl dX7_meetThree_80 rfl ?_
    refine g_callV C (c_X7_turnSpot g (σ := (up (up (up (up (up σ 0 11 w1) 9 0 w3) 9 1 w4) 9 2 w5) 9 3 0)) ((hR.d012 hp hq hr).I (by decide) |> fun h => by rw [← ew1] at h; exact h)) gv_X7_99 yd_X7_turnSpot ⟨by decide, by decide⟩ 0 7 (WD_get (by decide)) rfl rfl (Nat.le_of_ble_eq_true rfl) dX7_meetThree_81 ?_
    rintro u1 ⟨hF1, hc1⟩
    obtain ⟨s1, hs1, h01, h11, h91⟩ := ts_s hc1
    obtain ⟨hF2, hw2, hV2, hb0, hb1, hb2, hb3, h93, hB2⟩ := mt_in hR hp hq hr ew1 h2 ew3 ew4 ew5 hF1 hs1 h01 h11 h91
    refine g_aload_n 0 C rfl dX7_meetThree_84 rfl ?_
    refine g_callI C (c_X7_keepsAll g (σ := u1) (nr := nr) ((hF2.2 9 (by decide)).trans hn) hn16 hB2) gv_X7_102 yd_X7_keepsAll ⟨by decide, by decide⟩ 0 7 (WD_get (by decide)) rfl rfl (Nat.le_of_ble_eq_true rfl) dX7_meetThree_85 ?_
    rintro _ _ rfl
    refine g_zret (u := u1) C T dX7_meetThree_88 (bZ_or _) ?_
    refine ⟨_, rfl, hF2, Or.inr ⟨hV2, hb0, hb1, hb2, hb3, keeps_F hR hw2⟩⟩
  · refine g_iconst C dX7_meetThree_23 ?_
    refine g_zret (u := (up σ 0 11 w1)) C T dX7_meetThree_24 (by omega) ?_
    exact ⟨_, rfl, ⟨fun c h8 _ => up_c h8, fun j h9 => up_k h9⟩, Or.inl ⟨by rw [← ew1]; exact h2, (bZ_f id).symm⟩⟩
