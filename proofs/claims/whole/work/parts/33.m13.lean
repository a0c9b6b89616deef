theorem KpT.scale {f : Nat → Nat → Int} {nr : Nat} {a b k t d e : Int} (he : 0 < e) : KpT f nr (a * e) (b * e) (k * e) (t * e) (d * e) ↔ KpT f nr a b k t d := by
  unfold KpT
  refine ⟨fun h r hr => ?_, fun h r hr => ?_⟩
  · have h1 := h r hr
    rw [show f r 4 * (d * e) = f r 4 * d * e from by grind, show f r 0 * (a * e) + f r 1 * (b * e) + f r 2 * (k * e) + f r 3 * (t * e) = (f r 0 * a + f r 1 * b + f r 2 * k + f r 3 * t) * e from by grind] at h1
    exact (zc_le he).mp h1
  · have h1 := (zc_le he).mpr (h r hr)
    rw [show f r 4 * (d * e) = f r 4 * d * e from by grind, show f r 0 * (a * e) + f r 1 * (b * e) + f r 2 * (k * e) + f r 3 * (t * e) = (f r 0 * a + f r 1 * b + f r 2 * k + f r 3 * t) * e from by grind]
    exact h1
def FI (f : Nat → Nat → Int) (nr : Nat) (S : Nat → Nat → Nat → Nat → Prop) (τ : Nat → Nat → Int) : Prop := FBd τ ∧ (τ 0 20 = 0 → ∀ p q r s, S p q r s → ∀ a b k t d, Vx4 f p q r s a b k t d → ¬ KpT f nr a b k t d) ∧
  (0 < τ 0 20 → Nat.gcd (τ 0 19).natAbs (τ 0 20).natAbs = 1 ∧ (∃ a b k e, 0 < e ∧ KpT f nr a b k (τ 0 19 * e) (τ 0 20 * e)) ∧ ∀ p q r s, S p q r s → ∀ a b k t d, Vx4 f p q r s a b k t d → KpT f nr a b k t d → τ 0 19 * d ≤ t * τ 0 20)
theorem FI.mono {f : Nat → Nat → Int} {nr : Nat} {S S' : Nat → Nat → Nat → Nat → Prop} {τ : Nat → Nat → Int} (h : FI f nr S τ) (hS : ∀ p q r s, S' p q r s → S p q r s) : FI f nr S' τ :=
  ⟨h.1, fun h0 p q r s hs => h.2.1 h0 p q r s (hS p q r s hs), fun h1 => ⟨(h.2.2 h1).1, (h.2.2 h1).2.1, fun p q r s hs => (h.2.2 h1).2.2 p q r s (hS p q r s hs)⟩⟩
theorem m4_split {σ u : Nat → Nat → Int} {nr p q r s : Nat} {z : Int} (h : M4 σ nr p q r s z u) : ∃ P : Prop, z = bZ P ∧ FrS σ u ∧ (P → Vx4 (rwf σ) p q r s (u 9 0) (u 9 1) (u 9 2) (u 9 3) (u 0 11) ∧ Bd (u 9 3) 2457600000000 ∧ Bd (u 0 11) 2457600000000 ∧ ¬ (0 < σ 0 20 ∧ σ 0 19 * u 0 11 ≤ u 9 3 * σ 0 20) ∧ KpT (rwf σ) nr (u 9 0) (u 9 1) (u 9 2) (u 9 3) (u 0 11)) ∧ (¬ P → ∀ a b k t d, Vx4 (rwf σ) p q r s a b k t d → KpT (rwf σ) nr a b k t d → 0 < σ 0 20 ∧ σ 0 19 * d ≤ t * σ 0 20) := by
  obtain ⟨hF, ⟨h1, h2⟩ | ⟨h1, h2, h3, h4⟩⟩ := h
  · refine ⟨False, h2, hF, fun h => h.elim, fun _ a b k t d hv => ?_⟩
    obtain ⟨h3, s, hs, h4, _⟩ := hv
    rw [h1, Int.mul_zero] at h4
    omega
  · refine ⟨_, h4, hF, fun h => ⟨h1, h2, h3, h.1, h.2⟩, fun h a b k t d hv hk => ?_⟩
    obtain ⟨rfl, rfl, rfl, rfl, rfl⟩ := hv.uniq h1
    exact Classical.byContradiction fun h9 => h ⟨h9, hk⟩
theorem FBd.frs {τ u : Nat → Nat → Int} (h : FBd τ) (hF : FrS τ u) : FBd u := by
  unfold FBd
  rw [hF.2 19 (by decide), hF.2 20 (by decide)]
  exact h
theorem fi_no {f : Nat → Nat → Int} {nr p q r s : Nat} {S S' : Nat → Nat → Nat → Nat → Prop} {τ u : Nat → Nat → Int} (h : FI f nr S τ) (hF : FrS τ u) (hn : ∀ a b k t d, Vx4 f p q r s a b k t d → KpT f nr a b k t d → 0 < τ 0 20 ∧ τ 0 19 * d ≤ t * τ 0 20) (hS : ∀ p' q' r' s', S' p' q' r' s' → S p' q' r' s' ∨ (p' = p ∧ q' = q ∧ r' = r ∧ s' = s)) : FI f nr S' u := by
  refine ⟨h.1.frs hF, fun h0 p' q' r' s' hs a b k t d hv hk => ?_, fun h1 => ?_⟩
  · rw [hF.2 20 (by decide)] at h0
    rcases hS p' q' r' s' hs with h2 | ⟨rfl, rfl, rfl, rfl⟩
    · exact h.2.1 h0 p' q' r' s' h2 a b k t d hv hk
    · have := (hn a b k t d hv hk).1
      omega
  · rw [hF.2 20 (by decide)] at h1
    rw [hF.2 19 (by decide), hF.2 20 (by decide)]
    refine ⟨(h.2.2 h1).1, (h.2.2 h1).2.1, fun p' q' r' s' hs a b k t d hv hk => ?_⟩
    rcases hS p' q' r' s' hs with h2 | ⟨rfl, rfl, rfl, rfl⟩
    · exact (h.2.2 h1).2.2 p' q' r' s' h2 a b k t d hv hk
    · exact (hn a b k t d hv hk).2
theorem fi_yes {f : Nat → Nat → Int} {nr p q r s : Nat} {S S' : Nat → Nat → Nat → Nat → Prop} {τ u : Nat → Nat → Int} {G A B : Int} (h : FI f nr S τ) (hF : FrS τ u) (hV : Vx4 f p q r s (u 9 0) (u 9 1) (u 9 2) (u 9 3) (u 0 11)) (hb1 : Bd (u 9 3) 2457600000000) (hb2 : Bd (u 0 11) 2457600000000) (hN : ¬ (0 < τ 0 20 ∧ τ 0 19 * u 0 11 ≤ u 9 3 * τ 0 20)) (hK : KpT f nr (u 9 0) (u 9 1) (u 9 2) (u 9 3) (u 0 11)) (hG : G = gcZ (u 9 3) (u 0 11)) (hA : A = (u 9 3).tdiv G) (hB : B = (u 0 11).tdiv G) (hS : ∀ p' q' r' s', S' p' q' r' s' → S p' q' r' s' ∨ (p' = p ∧ q' = q ∧ r' = r ∧ s' = s)) : FI f nr S' (up (up u 0 19 A) 0 20 B) := by
  have hd := hV.1
  have gp := gcZ_pos (a := u 9 3) hd
  obtain ⟨gd1, gd2⟩ := gcZ_div (a := u 9 3) (b := u 0 11)
  have gr := gcZ_red (a := u 9 3) hd
  rw [← hG] at gp gd1 gd2 gr
  rw [← hA] at gd1 gr
  rw [← hB] at gd2 gr
  have hB0 : 0 < B := by
    rcases (show B ≤ 0 ∨ 0 < B by omega) with h | h
    · have := Int.mul_nonpos_of_nonpos_of_nonneg h (Int.le_of_lt gp.1)
      omega
    · exact h
  have e19 : up (up u 0 19 A) 0 20 B 0 19 = A := rfl
  have e20 : up (up u 0 19 A) 0 20 B 0 20 = B := rfl
  unfold FI FBd
  rw [e19, e20]
  refine ⟨Or.inr ⟨hB0, hb2.quo gp.1 gd2, hb1.quo gp.1 gd1⟩, fun h0 => by omega, fun _ => ⟨gr, ⟨u 9 0, u 9 1, u 9 2, G, gp.1, by rw [gd1, gd2]; exact hK⟩, fun p' q' r' s' hs a b k t d hv hk => ?_⟩⟩
  rcases hS p' q' r' s' hs with h2 | ⟨rfl, rfl, rfl, rfl⟩
  · have hz : 0 < τ 0 20 := by
      rcases h.1 with h3 | h3
      · exact absurd hk (h.2.1 h3 p' q' r' s' h2 a b k t d hv)
      · exact h3.1
    have h4 := (h.2.2 hz).2.2 p' q' r' s' h2 a b k t d hv hk
    have h5 : u 9 3 * τ 0 20 < τ 0 19 * u 0 11 := by
      rcases (show u 9 3 * τ 0 20 < τ 0 19 * u 0 11 ∨ τ 0 19 * u 0 11 ≤ u 9 3 * τ 0 20 by omega) with h6 | h6
      · exact h6
      · exact absurd ⟨hz, h6⟩ hN
    have h6 := cr_le (a := t) (x := d) (b := τ 0 19) (y := τ 0 20) (c := u 9 3) (z := u 0 11) hv.1 hz hd h4 (by omega)
    rw [← gd1, ← gd2] at h6
    exact (zc_le gp.1).mp (by rw [show A * d * G = A * G * d from Int.mul_right_comm _ _ _, show t * B * G = t * (B * G) from Int.mul_assoc _ _ _]; exact h6)
  · obtain ⟨rfl, rfl, rfl, rfl, rfl⟩ := hv.uniq hV
    have h6 : A * G * (B * G) ≤ A * G * (B * G) := Int.le_refl _
    rw [← gd1, ← gd2]
    rw [show A * (B * G) = A * B * G from (Int.mul_assoc _ _ _).symm, show A * G * B = A * B * G from Int.mul_right_comm _ _ _]
    exact Int.le_refl _
def FrF (σ u : Nat → Nat → Int) : Prop := (∀ c, c ≠ 0 → c ≠ 9 → u c = σ c) ∧ ∀ j, j ≠ 11 → j ≠ 19 → j ≠ 20 → u 0 j = σ 0 j
theorem FrF.frs {σ τ u : Nat → Nat → Int} (h : FrF σ τ) (hF : FrS τ u) : FrF σ u := ⟨fun c h0 h9 => (hF.1 c h0 h9).trans (h.1 c h0 h9), fun j h1 h2 h3 => (hF.2 j h1).trans (h.2 j h1 h2 h3)⟩
theorem FrF.up2 {σ τ : Nat → Nat → Int} {A B : Int} (h : FrF σ τ) : FrF σ (up (up τ 0 19 A) 0 20 B) := ⟨fun c h0 h9 => by simp [up, h0]; exact h.1 c h0 h9, fun j h1 h2 h3 => by simp [up, updI, h2, h3]; exact h.2 j h1 h2 h3⟩
theorem FrF.rw {σ u : Nat → Nat → Int} (h : FrF σ u) : rwf u = rwf σ := by
  funext r c
  unfold rwf
  rw [h.1 8 (by decide) (by decide)]
set_option maxHeartbeats 4000000 in
set_option maxRecDepth 20000 in
theorem ff_3 {g : Gx} {K : Kx} {q : Nat → Nat} {σ : Nat → Nat → Int} {nr : Nat} (hn : σ 0 9 = (nr : Int)) (hn16 : nr ≤ 16) (hR : RBT σ nr) {p1 p2 p3 : Nat} (l1 : p1 < p2) (l2 : p2 < p3) (C : CX g K cX7_findFactor RX7 7 3 93) (hk : ∀ τ : Nat → Nat → Int, FrF σ τ → FI (rwf σ) nr (Seen4 nr p1 p2 p3 nr) τ → GJ g K (WM g q τ) 115 [(0, .ref (q 0)), (1, .int (iZ (p1 : Int))), (2, .int (iZ (p2 : Int))), (3, .int (iZ (p3 : Int))), (4, .int (iZ (nr : Int)))] []) : ∀ (d p4 : Nat), p3 < p4 → p4 ≤ nr → nr < p4 + d → ∀ τ : Nat → Nat → Int, FrF σ τ → FI (rwf σ) nr (Seen4 nr p1 p2 p3 p4) τ → GJ g K (WM g q τ) 49 [(0, .ref (q 0)), (1, .int (iZ (p1 : Int))), (2, .int (iZ (p2 : Int))), (3, .int (iZ (p3 : Int))), (4, .int (iZ (p4 : Int)))] [] := by
  intro d
  induction d with
  | zero => intro p4 k0 k1 k2; omega
  | succ d ih =>
    intro p4 k0 k1 k2 τ hF hI
    refine g_iload 4 C rfl dX7_findFactor_49 ?_
    refine g_aload_n 0 C rfl dX7_findFactor_51 rfl ?_
    refine gf_X7_88 C dX7_findFactor_52 ?_
    rw [show τ 0 9 = (nr : Int) from ((hF.2 9 (by decide) (by decide) (by decide)).trans hn)]
    refine g_icmp_ge 115 C (by unfold I32; omega) (by unfold I32; omega) dX7_findFactor_55 (by decide) (fun h1 => ?_) (fun h1 => ?_)
    · obtain rfl : p4 = nr := by omega
      exact hk τ hF (hI.mono (fun p' q' r' s' h9 => by unfold Seen4 at *; omega))
    · refine g_aload_n 0 C rfl dX7_findFactor_58 rfl ?_
      refine g_iload_n 1 C rfl dX7_findFactor_59 rfl ?_
      refine g_iload_n 2 C rfl dX7_findFactor_60 rfl ?_
      refine g_iload_n 3 C rfl dX7_findFactor_61 rfl ?_
      refine g_iload 4 C rfl dX7_findFactor_62 ?_
      refine g_callI C (c_X7_meetFour g (σ := τ) (nr := nr) (p1 := p1) (p2 := p2) (p3 := p3) (p4 := p4) ((hF.2 9 (by decide) (by decide) (by decide)).trans hn) hn16 (by omega) (by omega) (by omega) (by omega) (hR.same hF.rw) hI.1) gv_X7_197 yd_X7_meetFour ⟨by decide, by decide⟩ 0 7 (WD_get (by decide)) rfl rfl (Nat.le_of_ble_eq_true rfl) dX7_findFactor_64 ?_
      rintro z1 u1 hM1
      obtain ⟨P1, rfl, hF1, hT1, hN1⟩ := m4_split hM1
      rw [hF.rw] at hT1 hN1
      refine g_beq 109 C dX7_findFactor_67 (by decide) (fun h2 => ?_) (fun h2 => ?_)
      · refine g_iinc (lv' := [(0, .ref (q 0)), (1, .int (iZ (p1 : Int))), (2, .int (iZ (p2 : Int))), (3, .int (iZ (p3 : Int))), (4, .int (iZ ((p4 : Int) + 1)))]) 4 [1, 2, 3, 4, 0] C rfl dX7_findFactor_109 (by decide) rfl ?_
        refine g_goto 49 C dX7_findFactor_112 (by decide) ?_
        exact ih (p4 + 1) (by omega) (by omega) (by omega) _ (hF.frs hF1) (fi_no hI hF1 (hN1 h2) (fun p' q' r' s' h9 => by unfold Seen4 at *; omega))
      · obtain ⟨hV1, hb1, hb2, hN2, hK1⟩ := hT1 h2
        have gp := gcZ_pos (a := u1 9 3) hV1.1
        refine g_aload_n 0 C rfl dX7_findFactor_70 rfl ?_
        refine gf_X7_39 C dX7_findFactor_71 ?_
        refine g_iconst C dX7_findFactor_74 ?_
        refine g_lald C 9 3 (by decide) (fun _ => rfl) (by omega) (by omega) (by decide) dX7_findFactor_75 ?_
        refine g_aload_n 0 C rfl dX7_findFactor_76 rfl ?_
        refine gf_X7_91 C dX7_findFactor_77 ?_
        refine g_callSL C (c_X7_common g (a := u1 9 3) (b := u1 0 11) (hb1.M (by decide)) (hb2.M (by decide))) gs_X7_125 yd_X7_common ⟨by decide, by decide⟩ rfl (Nat.le_of_ble_eq_true rfl) dX7_findFactor_80 ?_
        rintro _ rfl
        change GJ g K _ _ _ (.long (lZ (gcZ (u1 9 3) (u1 0 11))) :: _)
        refine g_lname (fun w3 ew3 => ?_)
        refine g_lstore (lv' := [(0, .ref (q 0)), (1, .int (iZ (p1 : Int))), (2, .int (iZ (p2 : Int))), (3, .int (iZ (p3 : Int))), (4, .int (iZ (p4 : Int))), (5, .long (lZ w3))]) [1, 2, 3, 4, 5, 0] C dX7_findFactor_83 (by decide) rfl ?_
        refine g_aload_n 0 C rfl dX7_findFactor_85 rfl ?_
        refine g_aload_n 0 C rfl dX7_findFactor_86 rfl ?_
        refine gf_X7_39 C dX7_findFactor_87 ?_
        refine g_iconst C dX7_findFactor_90 ?_
        refine g_lald C 9 3 (by decide) (fun _ => rfl) (by omega) (by omega) (by decide) dX7_findFactor_91 ?_
        refine g_lload 5 C rfl dX7_findFactor_92 ?_
        refine g_ldiv C dX7_findFactor_94 (hb1.I (by decide)) (by rw [ew3]; have h8 := hb2.2; unfold I64; omega) (by rw [ew3]; omega) ?_
        refine pf_X7_194 C dX7_findFactor_95 ?_
        refine g_aload_n 0 C rfl dX7_findFactor_98 rfl ?_
        refine g_aload_n 0 C rfl dX7_findFactor_99 rfl ?_
        refine gf_X7_91 C dX7_findFactor_100 ?_
        rw [show (up u1 0 19 ((u1 9 3).tdiv w3)) 0 11 = u1 0 11 from rfl]
        refine g_lload 5 C rfl dX7_findFactor_103 ?_
        refine g_ldiv C dX7_findFactor_105 (hb2.I (by decide)) (by rw [ew3]; have h8 := hb2.2; unfold I64; omega) (by rw [ew3]; omega) ?_
        refine pf_X7_191 C dX7_findFactor_106 ?_
        refine g_iinc (lv' := [(0, .ref (q 0)), (1, .int (iZ (p1 : Int))), (2, .int (iZ (p2 : Int))), (3, .int (iZ (p3 : Int))), (4, .int (iZ ((p4 : Int) + 1))), (5, .long (lZ w3))]) 4 [1, 2, 3, 4, 0, 5] C rfl dX7_findFactor_109 (by decide) rfl ?_
        refine g_goto 49 C dX7_findFactor_112 (by decide) ?_
        refine g_lv [0, 1, 2, 3, 4] rfl ?_
        exact ih (p4 + 1) (by omega) (by omega) (by omega) _ (hF.frs hF1).up2 (fi_yes hI hF1 hV1 hb1 hb2 hN2 hK1 ew3 rfl rfl (fun p' q' r' s' h9 => by unfold Seen4 at *; omega))
set_option maxHeartbeats 4000000 in
set_option maxRecDepth 20000 in
theorem ff_2 {g : Gx} {K : Kx} {q : Nat → Nat} {σ : Nat → Nat → Int} {nr : Nat} (hn : σ 0 9 = (nr : Int)) (hn16 : nr ≤ 16) (hR : RBT σ nr) {p1 p2 : Nat} (l1 : p1 < p2) (C : CX g K cX7_findFactor RX7 7 3 93) (hk : ∀ τ : Nat → Nat → Int, FrF σ τ → FI (rwf σ) nr (Seen4 nr p1 p2 nr nr) τ → GJ g K (WM g q τ) 121 [(0, .ref (q 0)), (1, .int (iZ (p1 : Int))), (2, .int (iZ (p2 : Int))), (3, .int (iZ (nr : Int)))] []) : ∀ (d p3 : Nat), p2 < p3 → p3 ≤ nr → nr < p3 + d → ∀ τ : Nat → Nat → Int, FrF σ τ → FI (rwf σ) nr (Seen4 nr p1 p2 p3 (p3 + 1)) τ → GJ g K (WM g q τ) 36 [(0, .ref (q 0)), (1, .int (iZ (p1 : Int))), (2, .int (iZ (p2 : Int))), (3, .int (iZ (p3 : Int)))] [] := by
  intro d
  induction d with
  | zero => intro p3 k0 k1 k2; omega
  | succ d ih =>
    intro p3 k0 k1 k2 τ hF hI
    refine g_iload_n 3 C rfl dX7_findFactor_36 rfl ?_
    refine g_aload_n 0 C rfl dX7_findFactor_37 rfl ?_
    refine gf_X7_88 C dX7_findFactor_38 ?_
    rw [show τ 0 9 = (nr : Int) from ((hF.2 9 (by decide) (by decide) (by decide)).trans hn)]
    refine g_icmp_ge 121 C (by unfold I32; omega) (by unfold I32; omega) dX7_findFactor_41 (by decide) (fun h1 => ?_) (fun h1 => ?_)
    · obtain rfl : p3 = nr := by omega
      exact hk τ hF (hI.mono (fun p' q' r' s' h9 => by unfold Seen4 at *; omega))
    · refine g_iload_n 3 C rfl dX7_findFactor_44 rfl ?_
      refine g_iconst C dX7_findFactor_45 ?_
      refine g_iadd C dX7_findFactor_46 ?_
      refine g_iname (fun w2 ew2 => ?_)
      refine g_istore (lv' := [(0, .ref (q 0)), (1, .int (iZ (p1 : Int))), (2, .int (iZ (p2 : Int))), (3, .int (iZ (p3 : Int))), (4, .int (iZ w2))]) [1, 2, 3, 4, 0] C dX7_findFactor_47 (by decide) rfl ?_
      subst ew2
      refine ff_3 hn hn16 hR (by omega) (by omega) C (fun τ2 hF2 hI2 => ?_) (nr + 1) (p3 + 1) (by omega) (by omega) (by omega) τ hF (hI.mono (fun p' q' r' s' h9 => by unfold Seen4 at *; omega))
      refine g_iinc (lv' := [(0, .ref (q 0)), (1, .int (iZ (p1 : Int))), (2, .int (iZ (p2 : Int))), (3, .int (iZ ((p3 : Int) + 1))), (4, .int (iZ (nr : Int)))]) 3 [1, 2, 3, 0, 4] C rfl dX7_findFactor_115 (by decide) rfl ?_
      refine g_goto 36 C dX7_findFactor_118 (by decide) ?_
      refine g_lv [0, 1, 2, 3] rfl ?_
      exact ih (p3 + 1) (by omega) (by omega) (by omega) τ2 hF2 (hI2.mono (fun p' q' r' s' h9 => by unfold Seen4 at *; omega))
set_option maxHeartbeats 4000000 in
set_option maxRecDepth 20000 in
theorem ff_1 {g : Gx} {K : Kx} {q : Nat → Nat} {σ : Nat → Nat → Int} {nr : Nat} (hn : σ 0 9 = (nr : Int)) (hn16 : nr ≤ 16) (hR : RBT σ nr) {p1 : Nat}  (C : CX g K cX7_findFactor RX7 7 3 93) (hk : ∀ τ : Nat → Nat → Int, FrF σ τ → FI (rwf σ) nr (Seen4 nr p1 nr nr nr) τ → GJ g K (WM g q τ) 127 [(0, .ref (q 0)), (1, .int (iZ (p1 : Int))), (2, .int (iZ (nr : Int)))] []) : ∀ (d p2 : Nat), p1 < p2 → p2 ≤ nr → nr < p2 + d → ∀ τ : Nat → Nat → Int, FrF σ τ → FI (rwf σ) nr (Seen4 nr p1 p2 (p2 + 1) ((p2 + 1) + 1)) τ → GJ g K (WM g q τ) 24 [(0, .ref (q 0)), (1, .int (iZ (p1 : Int))), (2, .int (iZ (p2 : Int)))] [] := by
  intro d
  induction d with
  | zero => intro p2 k0 k1 k2; omega
  | succ d ih =>
    intro p2 k0 k1 k2 τ hF hI
    refine g_iload_n 2 C rfl dX7_findFactor_24 rfl ?_
    refine g_aload_n 0 C rfl dX7_findFactor_25 rfl ?_
    refine gf_X7_88 C dX7_findFactor_26 ?_
    rw [show τ 0 9 = (nr : Int) from ((hF.2 9 (by decide) (by decide) (by decide)).trans hn)]
    refine g_icmp_ge 127 C (by unfold I32; omega) (by unfold I32; omega) dX7_findFactor_29 (by decide) (fun h1 => ?_) (fun h1 => ?_)
    · obtain rfl : p2 = nr := by omega
      exact hk τ hF (hI.mono (fun p' q' r' s' h9 => by unfold Seen4 at *; omega))
    · refine g_iload_n 2 C rfl dX7_findFactor_32 rfl ?_
      refine g_iconst C dX7_findFactor_33 ?_
      refine g_iadd C dX7_findFactor_34 ?_
      refine g_iname (fun w2 ew2 => ?_)
      refine g_istore_n (lv' := [(0, .ref (q 0)), (1, .int (iZ (p1 : Int))), (2, .int (iZ (p2 : Int))), (3, .int (iZ w2))]) [1, 2, 3, 0] C dX7_findFactor_35 rfl (by decide) rfl ?_
      subst ew2
      refine ff_2 hn hn16 hR (by omega) C (fun τ2 hF2 hI2 => ?_) (nr + 1) (p2 + 1) (by omega) (by omega) (by omega) τ hF (hI.mono (fun p' q' r' s' h9 => by unfold Seen4 at *; omega))
      refine g_iinc (lv' := [(0, .ref (q 0)), (1, .int (iZ (p1 : Int))), (2, .int (iZ ((p2 : Int) + 1))), (3, .int (iZ (nr : Int)))]) 2 [1, 2, 0, 3] C rfl dX7_findFactor_121 (by decide) rfl ?_
      refine g_goto 24 C dX7_findFactor_124 (by decide) ?_
      refine g_lv [0, 1, 2] rfl ?_
      exact ih (p2 + 1) (by omega) (by omega) (by omega) τ2 hF2 (hI2.mono (fun p' q' r' s' h9 => by unfold Seen4 at *; omega))
set_option maxHeartbeats 4000000 in
set_option maxRecDepth 20000 in
theorem ff_0 {g : Gx} {K : Kx} {q : Nat → Nat} {σ : Nat → Nat → Int} {nr : Nat} (hn : σ 0 9 = (nr : Int)) (hn16 : nr ≤ 16) (hR : RBT σ nr)  (C : CX g K cX7_findFactor RX7 7 3 93) (hk : ∀ τ : Nat → Nat → Int, FrF σ τ → FI (rwf σ) nr (Seen4 nr nr nr nr nr) τ → GJ g K (WM g q τ) 133 [(0, .ref (q 0)), (1, .int (iZ (nr : Int)))] []) : ∀ (d p1 : Nat), p1 ≤ nr → nr < p1 + d → ∀ τ : Nat → Nat → Int, FrF σ τ → FI (rwf σ) nr (Seen4 nr p1 (p1 + 1) ((p1 + 1) + 1) (((p1 + 1) + 1) + 1)) τ → GJ g K (WM g q τ) 12 [(0, .ref (q 0)), (1, .int (iZ (p1 : Int)))] [] := by
  intro d
  induction d with
  | zero => intro p1 k1 k2; omega
  | succ d ih =>
    intro p1 k1 k2 τ hF hI
    refine g_iload_n 1 C rfl dX7_findFactor_12 rfl ?_
    refine g_aload_n 0 C rfl dX7_findFactor_13 rfl ?_
    refine gf_X7_88 C dX7_findFactor_14 ?_
    rw [show τ 0 9 = (nr : Int) from ((hF.2 9 (by decide) (by decide) (by decide)).trans hn)]
    refine g_icmp_ge 133 C (by unfold I32; omega) (by unfold I32; omega) dX7_findFactor_17 (by decide) (fun h1 => ?_) (fun h1 => ?_)
    · obtain rfl : p1 = nr := by omega
      exact hk τ hF (hI.mono (fun p' q' r' s' h9 => by unfold Seen4 at *; omega))
    · refine g_iload_n 1 C rfl dX7_findFactor_20 rfl ?_
      refine g_iconst C dX7_findFactor_21 ?_
      refine g_iadd C dX7_findFactor_22 ?_
      refine g_iname (fun w2 ew2 => ?_)
      refine g_istore_n (lv' := [(0, .ref (q 0)), (1, .int (iZ (p1 : Int))), (2, .int (iZ w2))]) [1, 2, 0] C dX7_findFactor_23 rfl (by decide) rfl ?_
      subst ew2
      refine ff_1 hn hn16 hR  C (fun τ2 hF2 hI2 => ?_) (nr + 1) (p1 + 1) (by omega) (by omega) (by omega) τ hF (hI.mono (fun p' q' r' s' h9 => by unfold Seen4 at *; omega))
      refine g_iinc (lv' := [(0, .ref (q 0)), (1, .int (iZ ((p1 : Int) + 1))), (2, .int (iZ (nr : Int)))]) 1 [1, 0, 2] C rfl dX7_findFactor_127 (by decide) rfl ?_
      refine g_goto 12 C dX7_findFactor_130 (by decide) ?_
      refine g_lv [0, 1] rfl ?_
      exact ih (p1 + 1) (by omega) (by omega) τ2 hF2 (hI2.mono (fun p' q' r' s' h9 => by unfold Seen4 at *; omega))
def RTf (x l u m : Nat → Int) (n r c : Nat) : Int := if r = 2 * n + 3 then (if c = 3 then 1 else 0) else if r = 2 * n + 2 then (if c = 2 then 1 else 0) else if r % 2 = 0 then tE x l u m (x n) (r / 2) c else tO x l u m (x n) (r / 2) c
abbrev RTM (σ : Nat → Nat → Int) (n : Nat) : Nat → Nat → Int := RTf (σ 1) (σ 2) (σ 3) (moM σ n) n
theorem rows_RT {σ u : Nat → Nat → Int} {n : Nat} (h : rowsOK true σ u n) : ∀ r, r < 2 * n + 4 → ∀ c, c < 5 → rwf u r c = RTM σ n r c := by
  intro r hr c hc
  unfold RTM RTf
  by_cases h0 : r = 2 * n + 3
  · rw [if_pos h0, h0]
    exact h.2.2.2.1 rfl c hc
  · rw [if_neg h0]
    by_cases h1 : r = 2 * n + 2
    · rw [if_pos h1, h1]
      exact h.2.2.1 c hc
    · rw [if_neg h1]
      have h2 := h.2.1 (r / 2) (by omega) c hc
      by_cases h3 : r % 2 = 0
      · rw [if_pos h3]
        have e : 2 * (r / 2) = r := by omega
        rw [e] at h2
        exact h2.1
      · rw [if_neg h3]
        have e : 2 * (r / 2) + 1 = r := by omega
        rw [e] at h2
        exact h2.2
theorem rbt_of {σ u : Nat → Nat → Int} {n : Nat} (hA : AMb σ n) (h : rowsOK true σ u n) : RBT u (2 * n + 4) := by
  obtain ⟨hn, h2, h6, hx, hl, hm⟩ := hA
  intro r hr
  rw [rows_RT h r hr 0 (by decide), rows_RT h r hr 1 (by decide), rows_RT h r hr 2 (by decide), rows_RT h r hr 3 (by decide), rows_RT h r hr 4 (by decide)]
  unfold RTM RTf
  by_cases h0 : r = 2 * n + 3
  · simp only [if_pos h0]
    exact ⟨Bd.z (by decide), Bd.z (by decide), Bd.z (by decide), ⟨by decide, by decide⟩, Bd.z (by decide)⟩
  · simp only [if_neg h0]
    by_cases h1 : r = 2 * n + 2
    · simp only [if_pos h1]
      exact ⟨Bd.z (by decide), Bd.z (by decide), ⟨by decide, by decide⟩, Bd.z (by decide), Bd.z (by decide)⟩
    · simp only [if_neg h1]
      have a1 := hx (r / 2) (by omega)
      have a2 := hx n (by omega)
      have a3 := hl (r / 2) (by omega)
      have a4 := hm (r / 2) (by omega)
      have a5 : Bd (2 * moM σ n (r / 2)) 80000 := ⟨by have := a4.1; omega, by have := a4.2; omega⟩
      have a6 : Bd ((-2) * moM σ n (r / 2)) 80000 := ⟨by have := a4.2; omega, by have := a4.1; omega⟩
      have b1 : Bd (σ 1 n) 20 := ⟨by omega, by omega⟩
      have b2 : Bd (σ 3 (r / 2) - σ 2 (r / 2)) 40 := ⟨by omega, by omega⟩
      have b3 : Bd (σ 3 (r / 2) + σ 2 (r / 2)) 40 := ⟨by omega, by omega⟩
      by_cases h3 : r % 2 = 0
      · simp only [if_pos h3]
        exact ⟨⟨by show -40 ≤ 2 * (σ 1 n - σ 1 (r / 2)); omega, by show 2 * (σ 1 n - σ 1 (r / 2)) ≤ 40; omega⟩, ⟨by show -40 ≤ 2 * σ 1 (r / 2); omega, by show 2 * σ 1 (r / 2) ≤ 40; omega⟩, a5, b1.mul b2, b1.mul b3⟩
      · simp only [if_neg h3]
        exact ⟨⟨by show -40 ≤ (-2) * (σ 1 n - σ 1 (r / 2)); omega, by show (-2) * (σ 1 n - σ 1 (r / 2)) ≤ 40; omega⟩, ⟨by show -40 ≤ (-2) * σ 1 (r / 2); omega, by show (-2) * σ 1 (r / 2) ≤ 40; omega⟩, a6, b1.mul b2, (b1.mul b3).neg⟩
theorem Vx4_cg {f g : Nat → Nat → Int} {nr p q r s : Nat} {a b k t d : Int} (h : ∀ r, r < nr → ∀ c, c < 5 → f r c = g r c) (hp : p < nr) (hq : q < nr) (hr : r < nr) (hs : s < nr) : Vx4 f p q r s a b k t d ↔ Vx4 g p q r s a b k t d := by
  simp only [Vx4, det4, det3, h p hp 0 (by decide), h p hp 1 (by decide), h p hp 2 (by decide), h p hp 3 (by decide), h p hp 4 (by decide), h q hq 0 (by decide), h q hq 1 (by decide), h q hq 2 (by decide), h q hq 3 (by decide), h q hq 4 (by decide), h r hr 0 (by decide), h r hr 1 (by decide), h r hr 2 (by decide), h r hr 3 (by decide), h r hr 4 (by decide), h s hs 0 (by decide), h s hs 1 (by decide), h s hs 2 (by decide), h s hs 3 (by decide), h s hs 4 (by decide)]
theorem KpT_cg {f g : Nat → Nat → Int} {nr : Nat} {a b k t d : Int} (h : ∀ r, r < nr → ∀ c, c < 5 → f r c = g r c) : KpT f nr a b k t d ↔ KpT g nr a b k t d := by
  unfold KpT
  refine ⟨fun h1 r hr => ?_, fun h1 r hr => ?_⟩
  · rw [← h r hr 4 (by decide), ← h r hr 0 (by decide), ← h r hr 1 (by decide), ← h r hr 2 (by decide), ← h r hr 3 (by decide)]; exact h1 r hr
  · rw [h r hr 4 (by decide), h r hr 0 (by decide), h r hr 1 (by decide), h r hr 2 (by decide), h r hr 3 (by decide)]; exact h1 r hr
def All4 (nr p q r s : Nat) : Prop := p < q ∧ q < r ∧ r < s ∧ s < nr
theorem FI_cg {f g : Nat → Nat → Int} {nr : Nat} {τ : Nat → Nat → Int} (h : ∀ r, r < nr → ∀ c, c < 5 → f r c = g r c) (hI : FI f nr (All4 nr) τ) : FI g nr (All4 nr) τ := by
  refine ⟨hI.1, fun h0 p q r s hs a b k t d hv hk => ?_, fun h1 => ⟨(hI.2.2 h1).1, ?_, fun p q r s hs a b k t d hv hk => ?_⟩⟩
  · exact hI.2.1 h0 p q r s hs a b k t d ((Vx4_cg h (by unfold All4 at hs; omega) (by unfold All4 at hs; omega) (by unfold All4 at hs; omega) (by unfold All4 at hs; omega)).mpr hv) ((KpT_cg h).mpr hk)
  · obtain ⟨a, b, k, e, he, hab⟩ := (hI.2.2 h1).2.1
    exact ⟨a, b, k, e, he, (KpT_cg h).mp hab⟩
  · exact (hI.2.2 h1).2.2 p q r s hs a b k t d ((Vx4_cg h (by unfold All4 at hs; omega) (by unfold All4 at hs; omega) (by unfold All4 at hs; omega) (by unfold All4 at hs; omega)).mpr hv) ((KpT_cg h).mpr hk)
/-- nothing but what findFactor works out -/
def FrG (σ u : Nat → Nat → Int) : Prop := (∀ c, c ≠ 0 → c ≠ 8 → c ≠ 9 → u c = σ c) ∧ u 0 0 = σ 0 0
abbrev FN (σ : Nat → Nat → Int) (n : Nat) (u : Nat → Nat → Int) : Prop := FI (RTM σ n) (2 * n + 4) (All4 (2 * n + 4)) u
theorem ff_end {σ σ1 u : Nat → Nat → Int} {n : Nat} (h : rowsOK true σ σ1 n) (hF : FrF (up σ1 0 20 0) u) (hI : FI (rwf (up σ1 0 20 0)) (2 * n + 4) (Seen4 (2 * n + 4) (2 * n + 4) (2 * n + 4) (2 * n + 4) (2 * n + 4)) u) : FrG σ u ∧ FN σ n u := by
  refine ⟨⟨fun c h0 h8 h9 => ?_, ?_⟩, ?_⟩
  · rw [hF.1 c h0 h9, up_c h0]; exact h.1.1 c h0 h8
  · rw [hF.2 0 (by decide) (by decide) (by decide), up_k (by decide)]; exact h.1.2 0 (by decide)
  · refine FI_cg (f := rwf (up σ1 0 20 0)) (fun r hr c hc => ?_) (hI.mono (fun p q r s hs => ⟨hs.1, hs.2.1, hs.2.2.1, hs.2.2.2, Or.inl (by unfold All4 at hs; omega)⟩))
    rw [← rows_RT h r hr c hc]
    unfold rwf
    rw [up_c (by decide)]
theorem fi_start {f : Nat → Nat → Int} {nr : Nat} {τ : Nat → Nat → Int} (h : τ 0 20 = 0) : FI f nr (Seen4 nr 0 (0 + 1) (0 + 1 + 1) (0 + 1 + 1 + 1)) τ :=
  ⟨Or.inl h, fun _ p q r s hs => by unfold Seen4 at hs; omega, fun h1 => by omega⟩
set_option maxHeartbeats 4000000 in
set_option maxRecDepth 20000 in
theorem c_X7_findFactor (g : Gx) {q : Nat → Nat} {σ : Nat → Nat → Int} {nn : Nat} (hA : AMb σ nn) : MC g yX7_findFactor cX7_findFactor 7 ((some .boolean)) 3 93 (WM g q σ) [.ref (q 0)] (fun u => WM g q u) (pI (fun z u => FrG σ u ∧ FN σ nn u ∧ z = bZ (0 < u 0 20))) := by
  refine MC_intro (own := RX7) rfl (by decide) (Nat.le_of_ble_eq_true rfl) (fun K C T => ?_)
  show GJ g K (WM g q σ) 0 [(0, .ref (q 0))] []
  refine g_aload_n 0 C rfl dX7_findFactor_0 rfl ?_
  refine g_iconst C dX7_findFactor_1 ?_
  refine g_callV C (c_X7_findRowsT g (σ := σ) hA.1 hA.2.1 hA.2.2.1 hA.2.2.2.1 hA.2.2.2.2.1 (fun i hi => (hA.2.2.2.2.2 i hi).I32 (by decide))) gv_X7_110 yd_X7_findRows ⟨by decide, by decide⟩ 0 7 (WD_get (by decide)) rfl rfl (Nat.le_of_ble_eq_true rfl) dX7_findFactor_2 ?_
  intro σ1 hR1
  refine g_aload_n 0 C rfl dX7_findFactor_5 rfl ?_
  refine g_lconst 0 C dX7_findFactor_6 (by decide) ?_
  refine pf_X7_191 C dX7_findFactor_7 ?_
  refine g_iconst C dX7_findFactor_10 ?_
  refine g_istore_n (lv' := [(0, .ref (q 0)), (1, .int (iZ 0))]) [1, 0] C dX7_findFactor_11 rfl (by decide) rfl ?_
  refine ff_0 (σ := up σ1 0 20 0) (nr := 2 * nn + 4) ?_ (by have := hA.2.2.1; omega) ((rbt_of hA hR1).same (by funext r c; unfold rwf; rw [up_c (by decide)])) C (fun τ hF hI => ?_) (2 * nn + 5) 0 (by omega) (by omega) _ ⟨fun _ _ _ => rfl, fun _ _ _ _ => rfl⟩ (fi_start (up_s _ _ _ _))
  · rw [up_k (by decide), hR1.2.2.2.2]; simp; try omega
  · obtain ⟨hG, hN⟩ := ff_end hR1 hF hI
    refine g_aload_n 0 C rfl dX7_findFactor_133 rfl ?_
    refine gf_X7_191 C dX7_findFactor_134 ?_
    refine g_lconst 0 C dX7_findFactor_137 (by decide) ?_
    refine g_lcmp_le 146 C (by rcases hI.1 with h | ⟨h, h8, _⟩ <;> unfold I64 <;> (try unfold Bd at h8) <;> omega) (by unfold I64; omega) dX7_findFactor_138 dX7_findFactor_139 (by decide) (fun h1 => ?_) (fun h1 => ?_)
    · refine g_iconst C dX7_findFactor_146 ?_
      refine g_zret (u := τ) C T dX7_findFactor_147 (by omega) ?_
      exact ⟨_, rfl, hG, hN, (bZ_f (by omega)).symm⟩
    · refine g_iconst C dX7_findFactor_142 ?_
      refine g_goto 147 C dX7_findFactor_143 (by decide) ?_
      refine g_zret (u := τ) C T dX7_findFactor_147 (by omega) ?_
      exact ⟨_, rfl, hG, hN, (bZ_t (by omega)).symm⟩
theorem FrG.core {σ u : Nat → Nat → Int} (h : FrG σ u) : Core σ u := ⟨fun c h1 h7 => h.1 c (by omega) (by omega) (by omega), h.2⟩
def FcM (σ : Nat → Nat → Int) (nn : Nat) (pt z : Int) : Prop := (¬ (0 ≤ pt ∧ pt ≤ 1) ∧ z = -1) ∨ ((0 ≤ pt ∧ pt ≤ 1) ∧ ∃ u, FN σ nn u ∧ ((¬ 0 < u 0 20 ∧ z = -4) ∨ (0 < u 0 20 ∧ ((pt = 0 ∧ z = u 0 19) ∨ (pt = 1 ∧ z = u 0 20)))))
set_option maxHeartbeats 4000000 in
set_option maxRecDepth 20000 in
theorem c_X7_factor (g : Gx) {q : Nat → Nat} {σ : Nat → Nat → Int} {nn : Nat} {pt : Int} (h_pt : I32 pt) (hA : AMb σ nn) : MC g yX7_factor cX7_factor 2 ((some .long)) 4 119 (WM g q σ) [.ref (q 0), .int (iZ pt)] (fun u => WM g q u) (pL (fun z u => Core σ u ∧ FcM σ nn pt z)) := by
  refine MC_intro (own := RX7) rfl (by decide) (Nat.le_of_ble_eq_true rfl) (fun K C T => ?_)
  show GJ g K (WM g q σ) 0 [(0, .ref (q 0)), (1, .int (iZ pt))] []
  refine g_iload_n 1 C rfl dX7_factor_0 rfl ?_
  refine g_i2l C dX7_factor_1 h_pt ?_
  refine g_lconst 0 C dX7_factor_2 (by decide) ?_
  refine g_lconst 1 C dX7_factor_3 (by decide) ?_
  refine g_callSI C (c_X7_in g (v := pt) (a := 0) (b := 1) (I64_32 h_pt) (by unfold I64; omega) (by unfold I64; omega)) gs_X7_59 yd_X7_in ⟨by decide, by decide⟩ rfl (Nat.le_of_ble_eq_true rfl) dX7_factor_4 ?_
  rintro _ rfl
  refine g_bne 14 C dX7_factor_7 (by decide) (fun h1 => ?_) (fun h1 => ?_)
  · refine g_aload_n 0 C rfl dX7_factor_14 rfl ?_
    refine g_callI C (c_X7_findFactor g hA) gv_X7_201 yd_X7_findFactor ⟨by decide, by decide⟩ 0 7 (WD_get (by decide)) rfl rfl (Nat.le_of_ble_eq_true rfl) dX7_factor_15 ?_
    rintro _ u1 ⟨hG1, hN1, rfl⟩
    refine g_bne 27 C dX7_factor_18 (by decide) (fun h2 => ?_) (fun h2 => ?_)
    · refine g_iload_n 1 C rfl dX7_factor_27 rfl ?_
      refine g_if_ne 38 C h_pt dX7_factor_28 (by decide) (fun h3 => ?_) (fun h3 => ?_)
      · refine g_aload_n 0 C rfl dX7_factor_38 rfl ?_
        refine gf_X7_191 C dX7_factor_39 ?_
        refine g_lret (u := u1) C T dX7_factor_42 ?_
        exact ⟨_, rfl, hG1.core, Or.inr ⟨by omega, u1, hN1, Or.inr ⟨h2, Or.inr ⟨by omega, rfl⟩⟩⟩⟩
      · refine g_aload_n 0 C rfl dX7_factor_31 rfl ?_
        refine gf_X7_194 C dX7_factor_32 ?_
        refine g_goto 42 C dX7_factor_35 (by decide) ?_
        refine g_lret (u := u1) C T dX7_factor_42 ?_
        exact ⟨_, rfl, hG1.core, Or.inr ⟨by omega, u1, hN1, Or.inr ⟨h2, Or.inl ⟨by omega, rfl⟩⟩⟩⟩
    · refine g_ldc2 (-4) C wk_X7_149 (by decide) dX7_factor_21 ?_
      refine g_goto 42 C dX7_factor_24 (by decide) ?_
      refine g_lret (u := u1) C T dX7_factor_42 ?_
      exact ⟨_, rfl, hG1.core, Or.inr ⟨by omega, u1, hN1, Or.inl ⟨h2, rfl⟩⟩⟩
  · refine g_ldc2 (-1) C wk_X7_144 (by decide) dX7_factor_10 ?_
    refine g_lret (u := σ) C T dX7_factor_13 ?_
    exact ⟨_, rfl, Core.rf σ, Or.inl ⟨by omega, rfl⟩⟩
