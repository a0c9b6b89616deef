theorem Two_cg {f g : Nat → Nat → Int} {nr : Nat} (h : ∀ r, r < nr → ∀ c, c < 5 → f r c = g r c) {p0 p1 : Nat} (h0 : p0 < nr) (h1 : p1 < nr) : Two f p0 p1 ↔ Two g p0 p1 := by
  simp only [Two, Ag2, sm2, h p0 h0 0 (by decide), h p0 h0 1 (by decide), h p0 h0 2 (by decide), h p0 h0 4 (by decide), h p1 h1 0 (by decide), h p1 h1 1 (by decide), h p1 h1 2 (by decide), h p1 h1 4 (by decide)]
theorem Three_cg {f g : Nat → Nat → Int} {nr : Nat} (h : ∀ r, r < nr → ∀ c, c < 5 → f r c = g r c) {p0 p1 p2 : Nat} (h0 : p0 < nr) (h1 : p1 < nr) (h2 : p2 < nr) : Three f p0 p1 p2 ↔ Three g p0 p1 p2 := by
  simp only [Three, Ag3, sm3, prr, h p0 h0 0 (by decide), h p0 h0 1 (by decide), h p0 h0 2 (by decide), h p0 h0 4 (by decide), h p1 h1 0 (by decide), h p1 h1 1 (by decide), h p1 h1 2 (by decide), h p1 h1 4 (by decide), h p2 h2 0 (by decide), h p2 h2 1 (by decide), h p2 h2 2 (by decide), h p2 h2 4 (by decide)]
theorem Four_cg {f g : Nat → Nat → Int} {nr : Nat} (h : ∀ r, r < nr → ∀ c, c < 5 → f r c = g r c) {p0 p1 p2 p3 : Nat} (h0 : p0 < nr) (h1 : p1 < nr) (h2 : p2 < nr) (h3 : p3 < nr) : Four f p0 p1 p2 p3 ↔ Four g p0 p1 p2 p3 := by
  simp only [Four, Ag4, sm4, det3, h p0 h0 0 (by decide), h p0 h0 1 (by decide), h p0 h0 2 (by decide), h p0 h0 4 (by decide), h p1 h1 0 (by decide), h p1 h1 1 (by decide), h p1 h1 2 (by decide), h p1 h1 4 (by decide), h p2 h2 0 (by decide), h p2 h2 1 (by decide), h p2 h2 2 (by decide), h p2 h2 4 (by decide), h p3 h3 0 (by decide), h p3 h3 1 (by decide), h p3 h3 2 (by decide), h p3 h3 4 (by decide)]
theorem FB_cg {f g : Nat → Nat → Int} {nr : Nat} (h : ∀ r, r < nr → ∀ c, c < 5 → f r c = g r c) {z : Int} {u : Nat → Nat → Int} (hB : FB f nr z u) : FB g nr z u := by
  rcases hB with ⟨h1, p, q, r, h2, h3, h4, h5, h6, h7⟩ | ⟨h1, ⟨h2, p, q, r, s, h3, h4, h5, h6, h7, h8, h9⟩ | ⟨h2, h3⟩⟩
  · exact Or.inl ⟨h1, p, q, r, h2, h3, h4, (Three_cg h (by omega) (by omega) h4).mp h5, fun p' q' r' hs => fun ht => h6 p' q' r' hs ((Three_cg h (by unfold SeenF at hs; omega) (by unfold SeenF at hs; omega) (by unfold SeenF at hs; omega)).mpr ht), h7⟩
  · exact Or.inr ⟨fun p' q' r' hs => fun ht => h1 p' q' r' hs ((Three_cg h (by unfold AllT at hs; omega) (by unfold AllT at hs; omega) (by unfold AllT at hs; omega)).mpr ht), Or.inl ⟨h2, p, q, r, s, h3, h4, h5, h6, (Four_cg h (by omega) (by omega) (by omega) h6).mp h7, fun p' q' r' s' hs => fun ht => h8 p' q' r' s' hs ((Four_cg h (by unfold Seen4 at hs; omega) (by unfold Seen4 at hs; omega) (by unfold Seen4 at hs; omega) (by unfold Seen4 at hs; omega)).mpr ht), h9⟩⟩
  · exact Or.inr ⟨fun p' q' r' hs => fun ht => h1 p' q' r' hs ((Three_cg h (by unfold AllT at hs; omega) (by unfold AllT at hs; omega) (by unfold AllT at hs; omega)).mpr ht), Or.inr ⟨h2, fun p' q' r' s' hs => fun ht => h3 p' q' r' s' hs ((Four_cg h (by omega) (by omega) (by omega) (by omega)).mpr ht)⟩⟩
theorem AMb.fr {σ u : Nat → Nat → Int} {nn : Nat} (h : AMb σ nn) (hF : FrA σ u) : AMb u nn := by
  unfold AMb
  rw [hF.2, hF.mo, hF.1 1 (by decide) (by decide) (by decide) (by decide), hF.1 2 (by decide) (by decide) (by decide) (by decide), hF.1 3 (by decide) (by decide) (by decide) (by decide)]
  exact h
/-- the arch and the sheets stay -/
def Core (σ u : Nat → Nat → Int) : Prop := (∀ c, 1 ≤ c → c ≤ 7 → u c = σ c) ∧ u 0 0 = σ 0 0
theorem Core.rf (σ : Nat → Nat → Int) : Core σ σ := ⟨fun _ _ _ => rfl, rfl⟩
theorem FrA.core {σ u : Nat → Nat → Int} (h : FrA σ u) : Core σ u := ⟨fun c h1 h7 => h.1 c (by omega) (by omega) (by omega) (by omega), h.2⟩
theorem Core.tr {σ u v : Nat → Nat → Int} (h : Core σ u) (h' : Core u v) : Core σ v := ⟨fun c h1 h7 => (h'.1 c h1 h7).trans (h.1 c h1 h7), h'.2.trans h.2⟩
theorem Core.rfm {σ u : Nat → Nat → Int} (h : Core σ u) (n : Nat) : RFM u n = RFM σ n := by
  have e : moM u n = moM σ n := by
    funext i
    unfold moM
    rw [h.1 1 (by decide) (by decide), h.1 4 (by decide) (by decide)]
  unfold RFM
  rw [e, h.1 1 (by decide) (by decide), h.1 2 (by decide) (by decide), h.1 3 (by decide) (by decide)]
theorem fb_core {σ σ1 u : Nat → Nat → Int} {n : Nat} (h : rowsOK false σ σ1 n) (hF : FrB σ1 u) : Core σ u := ⟨fun c h1 h7 => by rw [hF c (by omega)]; exact h.1.1 c (by omega) (by omega), by rw [hF 0 (by decide)]; exact h.1.2 0 (by decide)⟩
set_option maxHeartbeats 4000000 in
set_option maxRecDepth 20000 in
theorem c_X7_findBars (g : Gx) {q : Nat → Nat} {σ : Nat → Nat → Int} {nn : Nat} (hA : AMb σ nn) (h2no : ∀ p q, p < q → q < 2 * nn + 3 → ¬ Two (RFM σ nn) p q) : MC g yX7_findBars cX7_findBars 1 ((some .int)) 3 93 (WM g q σ) [.ref (q 0)] (fun u => WM g q u) (pI (fun z u => Core σ u ∧ FB (RFM σ nn) (2 * nn + 3) z u)) := by
  refine MC_intro (own := RX7) rfl (by decide) (Nat.le_of_ble_eq_true rfl) (fun K C T => ?_)
  show GJ g K (WM g q σ) 0 [(0, .ref (q 0))] []
  refine g_aload_n 0 C rfl dX7_findBars_0 rfl ?_
  refine g_iconst C dX7_findBars_1 ?_
  refine g_callV C (c_X7_findRowsF g (σ := σ) hA.1 hA.2.1 hA.2.2.1 hA.2.2.2.1 hA.2.2.2.2.1 (fun i hi => (hA.2.2.2.2.2 i hi).I32 (by decide))) gv_X7_110 yd_X7_findRows ⟨by decide, by decide⟩ 0 7 (WD_get (by decide)) rfl rfl (Nat.le_of_ble_eq_true rfl) dX7_findBars_2 ?_
  intro σ1 hR1
  refine g_aload_n 0 C rfl dX7_findBars_5 rfl ?_
  refine gf_X7_45 C dX7_findBars_6 ?_
  refine g_iconst C dX7_findBars_9 ?_
  refine g_iconst C dX7_findBars_10 ?_
  refine g_iast C 11 0 (by decide) (fun _ => rfl) (by omega) (by omega) (by decide) dX7_findBars_11 ?_
  have hn9 : up σ1 11 0 0 0 9 = ((2 * nn + 3 : Nat) : Int) := by
    rw [up_c (by decide), hR1.2.2.2.2]; simp; try omega
  have hrw : rwf (up σ1 11 0 0) = rwf σ1 := by
    funext r c
    unfold rwf
    rw [up_c (by decide)]
  have hR2 : RBF (up σ1 11 0 0) (2 * nn + 3) := (rbf_of hA hR1).same hrw
  have h2n : ∀ p q, p < q → q < 2 * nn + 3 → ¬ Two (rwf (up σ1 11 0 0)) p q := fun p q h1 h2 h3 => h2no p q h1 h2 (by
    rw [hrw] at h3
    exact (Two_cg (rows_RF hR1) (by omega) h2).mp h3)
  have hn16 : 2 * nn + 3 ≤ 16 := by have := hA.2.2.1; omega
  have hT : ∀ (z : Int) (u : Nat → Nat → Int), FrB (up σ1 11 0 0) u → FB (rwf (up σ1 11 0 0)) (2 * nn + 3) z u → pI (fun z u => Core σ u ∧ FB (RFM σ nn) (2 * nn + 3) z u) (some (.int (iZ z))) u := fun z u h1 h2 => by
    rw [hrw] at h2
    exact ⟨z, rfl, fb_core hR1 (fun c hc => (h1 c hc).trans (up_c hc)), FB_cg (rows_RF hR1) h2⟩
  refine fb2_0 hn9 hn16 hR2 h2n C T hT (fun τ hF _ => ?_) (2 * nn + 4) 0 (by omega) (by omega) _ (fun _ _ => rfl) (up_s _ _ _ _) trivial
  refine g_aload_n 0 C rfl dX7_findBars_87 rfl ?_
  refine gf_X7_45 C dX7_findBars_88 ?_
  refine g_iconst C dX7_findBars_91 ?_
  refine g_iconst C dX7_findBars_92 ?_
  refine g_iast C 11 0 (by decide) (fun _ => rfl) (by omega) (by omega) (by decide) dX7_findBars_93 ?_
  refine fb3_0 hn9 hn16 hR2 h2n C T hT (fun τ2 hF2 hI2 => ?_) (2 * nn + 4) 0 (by omega) (by omega) _ hF.up (up_s _ _ _ _) (fun p' q' r' h9 => by unfold SeenF at h9; omega)
  have h3no : N3 (rwf (up σ1 11 0 0)) (AllT (2 * nn + 3)) := fun p' q' r' h9 => hI2 p' q' r' (by unfold SeenF; unfold AllT at h9; omega)
  refine g_aload_n 0 C rfl dX7_findBars_209 rfl ?_
  refine gf_X7_45 C dX7_findBars_210 ?_
  refine g_iconst C dX7_findBars_213 ?_
  refine g_iconst C dX7_findBars_214 ?_
  refine g_iast C 11 0 (by decide) (fun _ => rfl) (by omega) (by omega) (by decide) dX7_findBars_215 ?_
  refine fb4_0 hn9 hn16 hR2 h2n h3no C T hT (fun τ3 hF3 hI3 => ?_) (2 * nn + 4) 0 (by omega) (by omega) _ hF2.up (up_s _ _ _ _) (fun p' q' r' s' h9 => by unfold Seen4 at h9; omega)
  refine g_iconst C dX7_findBars_371 ?_
  refine g_iret (u := τ3) C T dX7_findBars_372 ?_
  exact hT _ _ hF3 (Or.inr ⟨h3no, Or.inr ⟨rfl, fun p' q' r' s' h9 => hI3 p' q' r' s' (by unfold Seen4; omega)⟩⟩)
def BarM (σ : Nat → Nat → Int) (nn : Nat) (i z : Int) : Prop := (¬ (-1 ≤ i ∧ i ≤ 3) ∧ z = -1) ∨ ((-1 ≤ i ∧ i ≤ 3) ∧ ∃ u1, LN σ nn u1 ∧ ((u1 0 12 = 1 ∧ z = -2) ∨ (u1 0 12 = 0 ∧ ∃ zb ub, FB (RFM σ nn) (2 * nn + 3) zb ub ∧ ((zb ≤ i ∧ z = -1) ∨ (i < zb ∧ ((i < 0 ∧ z = zb) ∨ (0 ≤ i ∧ ((ub 11 i.toNat = 2 * (nn : Int) + 2 ∧ z = 14) ∨ (ub 11 i.toNat ≠ 2 * (nn : Int) + 2 ∧ z = ub 11 i.toNat)))))))))
theorem FB.z {f : Nat → Nat → Int} {nr : Nat} {z : Int} {u : Nat → Nat → Int} (h : FB f nr z u) : z = 3 ∨ z = 4 ∨ z = 0 := by
  rcases h with h | ⟨_, h | h⟩
  · exact Or.inl h.1
  · exact Or.inr (Or.inl h.1)
  · exact Or.inr (Or.inr h.1)
theorem FB.b {f : Nat → Nat → Int} {nr : Nat} {z : Int} {u : Nat → Nat → Int} (h : FB f nr z u) (hn : nr ≤ 16) {i : Nat} (hi : (i : Int) < z) : 0 ≤ u 11 i ∧ u 11 i < 16 := by
  rcases h with ⟨e, p, q, r, h1, h2, h3, _, _, h4, h5, h6⟩ | ⟨_, ⟨e, p, q, r, s, h1, h2, h3, h7, _, _, h4, h5, h6, h8⟩ | h⟩
  · rcases (show i = 0 ∨ i = 1 ∨ i = 2 by omega) with rfl | rfl | rfl
    · rw [h4]; omega
    · rw [h5]; omega
    · rw [h6]; omega
  · rcases (show i = 0 ∨ i = 1 ∨ i = 2 ∨ i = 3 by omega) with rfl | rfl | rfl | rfl
    · rw [h4]; omega
    · rw [h5]; omega
    · rw [h6]; omega
    · rw [h8]; omega
  · omega
set_option maxHeartbeats 4000000 in
set_option maxRecDepth 20000 in
theorem c_X7_bar (g : Gx) {q : Nat → Nat} {σ : Nat → Nat → Int} {nn : Nat} {i : Int} (h_i : I32 i) (hA : AMb σ nn) (h2no : ∀ p q, p < q → q < 2 * nn + 3 → ¬ Two (RFM σ nn) p q) : MC g yX7_bar cX7_bar 2 ((some .int)) 4 123 (WM g q σ) [.ref (q 0), .int (iZ i)] (fun u => WM g q u) (pI (fun z u => Core σ u ∧ BarM σ nn i z)) := by
  refine MC_intro (own := RX7) rfl (by decide) (Nat.le_of_ble_eq_true rfl) (fun K C T => ?_)
  show GJ g K (WM g q σ) 0 [(0, .ref (q 0)), (1, .int (iZ i))] []
  have hn := hA.1
  have hn2 := hA.2.1
  have hn6 := hA.2.2.1
  refine g_iload_n 1 C rfl dX7_bar_0 rfl ?_
  refine g_i2l C dX7_bar_1 h_i ?_
  refine g_ldc2 (-1) C wk_X7_144 (by decide) dX7_bar_2 ?_
  refine g_ldc2 3 C wk_X7_69 (by decide) dX7_bar_5 ?_
  refine g_callSI C (c_X7_in g (v := i) (a := (-1)) (b := 3) (I64_32 h_i) (by unfold I64; omega) (by unfold I64; omega)) gs_X7_59 yd_X7_in ⟨by decide, by decide⟩ rfl (Nat.le_of_ble_eq_true rfl) dX7_bar_8 ?_
  rintro _ rfl
  refine g_bne 16 C dX7_bar_11 (by decide) (fun h1 => ?_) (fun h1 => ?_)
  · refine g_aload_n 0 C rfl dX7_bar_16 rfl ?_
    refine g_callV C (c_X7_findLines g hA) gv_X7_141 yd_X7_findLines ⟨by decide, by decide⟩ 0 7 (WD_get (by decide)) rfl rfl (Nat.le_of_ble_eq_true rfl) dX7_bar_17 ?_
    rintro u1 ⟨hF1, hI1⟩
    refine g_aload_n 0 C rfl dX7_bar_20 rfl ?_
    refine gf_X7_114 C dX7_bar_21 ?_
    refine g_if_eq 30 C (by rcases hI1.1 with h | h <;> unfold I32 <;> omega) dX7_bar_24 (by decide) (fun h2 => ?_) (fun h2 => ?_)
    · refine g_aload_n 0 C rfl dX7_bar_30 rfl ?_
      refine g_aload_n 0 C rfl dX7_bar_31 rfl ?_
      refine g_callI C (c_X7_findBars g (σ := u1) (hA.fr hF1) (fun p q h1 h2 => by rw [hF1.core.rfm]; exact h2no p q h1 h2)) gv_X7_180 yd_X7_findBars ⟨by decide, by decide⟩ 0 7 (WD_get (by decide)) rfl rfl (Nat.le_of_ble_eq_true rfl) dX7_bar_32 ?_
      rintro zb u2 ⟨hC2, hB2⟩
      rw [hF1.core.rfm] at hB2
      have hz2 := hB2.z
      refine pf_X7_184 C dX7_bar_35 ?_
      refine g_iload_n 1 C rfl dX7_bar_38 rfl ?_
      refine g_aload_n 0 C rfl dX7_bar_39 rfl ?_
      refine gf_X7_184 C dX7_bar_40 ?_
      rw [show (up u2 0 17 zb) 0 17 = zb from up_s _ _ _ _]
      refine g_icmp_lt 48 C h_i (by unfold I32; omega) dX7_bar_43 (by decide) (fun h3 => ?_) (fun h3 => ?_)
      · refine g_iload_n 1 C rfl dX7_bar_48 rfl ?_
        refine g_if_ge 59 C h_i dX7_bar_49 (by decide) (fun h4 => ?_) (fun h4 => ?_)
        · refine g_aload_n 0 C rfl dX7_bar_59 rfl ?_
          refine gf_X7_45 C dX7_bar_60 ?_
          refine g_iload_n 1 C rfl dX7_bar_63 rfl ?_
          refine g_iald C 11 ((i).toNat) (by decide) (fun _ => rfl) (by omega) (by omega) (by decide) dX7_bar_64 ?_
          rw [show (up u2 0 17 zb) 11 ((i).toNat) = u2 11 ((i).toNat) from rfl]
          refine g_iconst C dX7_bar_65 ?_
          refine g_aload_n 0 C rfl dX7_bar_66 rfl ?_
          refine gf_X7_7 C dX7_bar_67 ?_
          rw [show (up u2 0 17 zb) 0 0 = (nn : Int) from ((hC2.2.trans hF1.2).trans hA.1)]
          refine g_imul C dX7_bar_70 ?_
          refine g_iconst C dX7_bar_71 ?_
          refine g_iadd C dX7_bar_72 ?_
          refine g_icmp_ne 81 C (by have h5 := hB2.b (i := i.toNat) (by omega) (by omega); unfold I32; omega) (by unfold I32; omega) dX7_bar_73 (by decide) (fun h5 => ?_) (fun h5 => ?_)
          · refine g_aload_n 0 C rfl dX7_bar_81 rfl ?_
            refine gf_X7_45 C dX7_bar_82 ?_
            refine g_iload_n 1 C rfl dX7_bar_85 rfl ?_
            refine g_iald C 11 ((i).toNat) (by decide) (fun _ => rfl) (by omega) (by omega) (by decide) dX7_bar_86 ?_
            rw [show (up u2 0 17 zb) 11 ((i).toNat) = u2 11 ((i).toNat) from rfl]
            refine g_iret (u := (up u2 0 17 zb)) C T dX7_bar_87 ?_
            exact ⟨_, rfl, (hF1.core.tr hC2).tr ⟨fun c h1 _ => up_c (by omega), up_k (by decide)⟩, Or.inr ⟨by omega, u1, hI1, Or.inr ⟨by omega, zb, u2, hB2, Or.inr ⟨by omega, Or.inr ⟨by omega, Or.inr ⟨by omega, rfl⟩⟩⟩⟩⟩⟩
          · refine g_bipush C dX7_bar_76 (by decide) ?_
            refine g_goto 87 C dX7_bar_78 (by decide) ?_
            refine g_iret (u := (up u2 0 17 zb)) C T dX7_bar_87 ?_
            exact ⟨_, rfl, (hF1.core.tr hC2).tr ⟨fun c h1 _ => up_c (by omega), up_k (by decide)⟩, Or.inr ⟨by omega, u1, hI1, Or.inr ⟨by omega, zb, u2, hB2, Or.inr ⟨by omega, Or.inr ⟨by omega, Or.inl ⟨by omega, rfl⟩⟩⟩⟩⟩⟩
        · refine g_aload_n 0 C rfl dX7_bar_52 rfl ?_
          refine gf_X7_184 C dX7_bar_53 ?_
          rw [show (up u2 0 17 zb) 0 17 = zb from up_s _ _ _ _]
          refine g_goto 87 C dX7_bar_56 (by decide) ?_
          refine g_iret (u := (up u2 0 17 zb)) C T dX7_bar_87 ?_
          exact ⟨_, rfl, (hF1.core.tr hC2).tr ⟨fun c h1 _ => up_c (by omega), up_k (by decide)⟩, Or.inr ⟨by omega, u1, hI1, Or.inr ⟨by omega, zb, u2, hB2, Or.inr ⟨by omega, Or.inl ⟨by omega, rfl⟩⟩⟩⟩⟩
      · refine g_iconst C dX7_bar_46 ?_
        refine g_iret (u := (up u2 0 17 zb)) C T dX7_bar_47 ?_
        exact ⟨_, rfl, (hF1.core.tr hC2).tr ⟨fun c h1 _ => up_c (by omega), up_k (by decide)⟩, Or.inr ⟨by omega, u1, hI1, Or.inr ⟨by omega, zb, u2, hB2, Or.inl ⟨by omega, rfl⟩⟩⟩⟩
    · refine g_bipush C dX7_bar_27 (by decide) ?_
      refine g_iret (u := u1) C T dX7_bar_29 ?_
      exact ⟨_, rfl, hF1.core, Or.inr ⟨by omega, u1, hI1, Or.inl ⟨by rcases hI1.1 with h | h <;> omega, rfl⟩⟩⟩
  · refine g_iconst C dX7_bar_14 ?_
    refine g_iret (u := σ) C T dX7_bar_15 ?_
    exact ⟨_, rfl, Core.rf σ, Or.inl ⟨by omega, rfl⟩⟩
