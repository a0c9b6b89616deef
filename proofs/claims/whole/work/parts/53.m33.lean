def HtC (S : Prop) (u1 : Nat → Nat → Int) (cnt nn i : Nat) (pt z : Int) : Prop := (¬ S ∧ z = -1000000000000002) ∨ (S ∧ ∃ k : Nat, TM u1 cnt 1 1 k ∧ ((k = 0 ∧ z = -1000000000000004) ∨ (k ≠ 0 ∧ ∃ u3, LY (redP u1 24 (u1 8 k + u1 9 k) (2 * u1 10 k)) nn u3 ∧ ((pt = 0 ∧ z = rN (hiA u3 i) (hiB u3)) ∨ (pt = 1 ∧ z = rD (hiA u3 i) (hiB u3))))))
theorem LY.fr {σ u : Nat → Nat → Int} {nn : Nat} (h : LY σ nn u) : ∀ c, c ≠ 11 → u c = σ c := by
  obtain ⟨u1, h1, h2⟩ := h
  intro c hc
  rw [h2.1.1 c hc, h1.1.1 c hc, lyP_c hc]
theorem LY.b {σ u : Nat → Nat → Int} {nn : Nat} (h : LY σ nn u) : (u 11 1 = σ 24 0 ∧ u 11 2 = σ 24 1) ∧ (Bd (u 11 3) 6400000000 ∧ 0 < u 11 4 ∧ u 11 4 ≤ 20) ∧ Bd (u 11 5) 9600000000 ∧ 0 < u 11 6 ∧ u 11 6 ≤ 20 := by
  obtain ⟨u1, h1, h2⟩ := h
  rw [h2.1.2 1 (by decide) (by decide), h2.1.2 2 (by decide) (by decide), h2.1.2 3 (by decide) (by decide), h2.1.2 4 (by decide) (by decide), h1.1.2 1 (by decide) (by decide), h1.1.2 2 (by decide) (by decide), lyP_1, lyP_2]
  exact ⟨⟨rfl, rfl⟩, h1.2.1, h2.2.1⟩
set_option maxHeartbeats 4000000 in
set_option maxRecDepth 20000 in
theorem c_X6_height (g : Gx) {q : Nat → Nat} {σ : Nat → Nat → Int} {nn : Nat} (hS : HS σ 5 nn) {ii pt : Int} (h_ii : I32 ii) (h_pt : I32 pt) : MC g yX6_height cX6_height 3 ((some .long)) 4 99 (WC g q σ) [.ref (q 0), .int (iZ ii), .int (iZ pt)] (fun u => WC g q u) (pL (fun z u => (¬ ((0 ≤ ii ∧ ii ≤ (nn : Int)) ∧ (pt = 0 ∨ pt = 1)) ∧ z = -1000000000000001 ∧ u = σ) ∨ ((0 ≤ ii ∧ ii ≤ (nn : Int)) ∧ (pt = 0 ∨ pt = 1) ∧ FrC σ u ∧ ∃ u1, ∃ cnt : Nat, GA σ 5 nn u1 ∧ u1 7 1 = (cnt : Int) ∧ TB u1 cnt ∧ HtC (HoldP (σ 2) (σ 3) (σ 4) (mo (σ 2) (σ 5) nn) nn 1 1) u1 cnt nn ii.toNat pt z))) := by
  refine MC_intro (own := RX6) rfl (by decide) (Nat.le_of_ble_eq_true rfl) (fun K C T => ?_)
  show GJ g K (WC g q σ) 0 [(0, .ref (q 0)), (1, .int (iZ ii)), (2, .int (iZ pt))] []
  refine g_aload_n 0 C rfl dX6_height_0 rfl ?_
  refine gf_X6_12 C dX6_height_1 ?_
  refine g_iload_n 1 C rfl dX6_height_4 rfl ?_
  refine g_callI C (c_X0_hasJoint g (σ := σ) hS.1 hS.2.1.1.1 hS.2.1.1.2 h_ii) gv_X6_71 yd_X0_hasJoint ⟨by decide, by decide⟩ 1 0 (WD_get (by decide)) rfl rfl (Nat.le_of_ble_eq_true rfl) dX6_height_5 ?_
  rintro _ _ rfl
  refine g_beq 18 C dX6_height_8 (by decide) (fun h1 => ?_) (fun h1 => ?_)
  · refine g_ldc2 (-1000000000000001) C wk_X6_173 (by decide) dX6_height_18 ?_
    refine g_lret (u := σ) C T dX6_height_21 ?_
    exact ⟨_, rfl, Or.inl ⟨by omega, rfl, rfl⟩⟩
  · refine g_iload_n 2 C rfl dX6_height_11 rfl ?_
    refine g_callSI C (c_X6_isChoice g h_pt) gs_X6_138 yd_X6_isChoice ⟨by decide, by decide⟩ rfl (Nat.le_of_ble_eq_true rfl) dX6_height_12 ?_
    rintro _ rfl
    refine g_bne 22 C dX6_height_15 (by decide) (fun h2 => ?_) (fun h2 => ?_)
    · refine g_aload_n 0 C rfl dX6_height_22 rfl ?_
      refine g_aload_n 0 C rfl dX6_height_23 rfl ?_
      refine gf_X6_12 C dX6_height_24 ?_
      refine gf_X6_91 C dX6_height_27 ?_
      refine g_callI C (c_X6_holdsUnder g (σ := σ) (nn := nn) (lc := 5) (Or.inl rfl) hS) gv_X6_134 yd_X6_holdsUnder ⟨by decide, by decide⟩ 0 6 (WD_get (by decide)) rfl rfl (Nat.le_of_ble_eq_true rfl) dX6_height_30 ?_
      rintro _ u1 ⟨hG, rfl⟩
      obtain ⟨cnt, hcn, hT⟩ := hS.tb hG
      refine g_bne 40 C dX6_height_33 (by decide) (fun h3 => ?_) (fun h3 => ?_)
      · have hHold := h3
        refine g_aload_n 0 C rfl dX6_height_40 rfl ?_
        refine gf_X6_21 C dX6_height_41 ?_
        refine g_aload_n 0 C rfl dX6_height_44 rfl ?_
        refine gf_X6_52 C dX6_height_45 ?_
        refine g_callI C (c_X5_greatestPush g (σ := u1) hT) gv_X6_145 yd_X5_greatestPush ⟨by decide, by decide⟩ 7 5 (WD_get (by decide)) rfl rfl (Nat.le_of_ble_eq_true rfl) dX6_height_48 ?_
        rintro z u2 ⟨k, hk, hz⟩
        refine g_if_ne 58 C (by rcases hz with ⟨_, h, _⟩ | ⟨_, h, _⟩ <;> rw [h] <;> exact bZ_I _) dX6_height_51 (by decide) (fun h4 => ?_) (fun h4 => ?_)
        · obtain ⟨hk0, hu2⟩ : k ≠ 0 ∧ u2 = redP u1 24 (u1 8 k + u1 9 k) (2 * u1 10 k) := by
            rcases hz with ⟨_, h, _⟩ | ⟨h1, _, h2⟩
            · exact absurd (h.trans (bZ_f id)) h4
            · exact ⟨h1, h2⟩
          subst hu2
          have hpb := tm_b hT (by have h9 := hHold; rw [← hold_iff hG hcn hT] at h9; exact h9.2) hk hk0
          have hrb := rN_b (M := 3200) (N := 1600000) hpb.2.1 hpb.1 hpb.2.2
          have hSu := hS.fr (hG.fr.tr (FrC.f24 (fun c hc => redP_c (σ := u1) (A := u1 8 k + u1 9 k) (B := 2 * u1 10 k) hc)))
          have hmu : ∀ i, i ≤ nn → Bd (redP u1 24 (u1 8 k + u1 9 k) (2 * u1 10 k) 6 i) 40000 := fun i hi => by rw [redP_c (by decide), hG.2.1 i hi]; exact hS.hmo i hi
          refine g_aload_n 0 C rfl dX6_height_58 rfl ?_
          refine gf_X6_28 C dX6_height_59 ?_
          refine g_aload_n 0 C rfl dX6_height_62 rfl ?_
          refine gf_X6_52 C dX6_height_63 ?_
          refine g_callV C (c_X3_lay g (σ := (redP u1 24 (u1 8 k + u1 9 k) (2 * u1 10 k))) (nn := nn) hSu.1 hSu.2.1.1.1 hSu.2.1.1.2 hSu.hx hSu.2.1.lt hSu.hlB hmu (by rw [redP_0']; exact ⟨by omega, hrb.1.2⟩) (by rw [redP_1']; exact hrb.2)) gv_X6_179 yd_X3_lay ⟨by decide, by decide⟩ 11 3 (WD_get (by decide)) rfl rfl (Nat.le_of_ble_eq_true rfl) dX6_height_66 ?_
          intro u3 hLY
          refine g_aload_n 0 C rfl dX6_height_69 rfl ?_
          refine gf_X6_28 C dX6_height_70 ?_
          refine g_aload_n 0 C rfl dX6_height_73 rfl ?_
          refine gf_X6_52 C dX6_height_74 ?_
          refine g_iload_n 1 C rfl dX6_height_77 rfl ?_
          have hii : ii = ((ii.toNat : Nat) : Int) := by omega
          have hhi := c_X3_heightInto g (q := q) (σ := u3) (nn := nn) hS.2.1.1.2 (by rw [hLY.fr 2 (by decide)]; exact hSu.hx) (by rw [hLY.fr 6 (by decide)]; exact hmu) (by rw [hLY.b.1.1, redP_0']; exact ⟨by omega, hrb.1.2⟩) (by rw [hLY.b.1.2, redP_1']; exact hrb.2) hLY.b.2.1.1 hLY.b.2.1.2 hLY.b.2.2.1 hLY.b.2.2.2 (i := ii.toNat) (by omega)
          rw [← hii] at hhi
          refine g_callV C hhi gv_X6_183 yd_X3_heightInto ⟨by decide, by decide⟩ 11 3 (WD_get (by decide)) rfl rfl (Nat.le_of_ble_eq_true rfl) dX6_height_78 ?_
          rintro _ rfl
          refine g_aload_n 0 C rfl dX6_height_81 rfl ?_
          refine gf_X6_52 C dX6_height_82 ?_
          refine g_iload_n 2 C rfl dX6_height_85 rfl ?_
          refine g_callL C (c_X2_part g (σ := (redP u3 24 (hiA u3 ii.toNat) (hiB u3))) h_pt) gv_X6_169 yd_X2_part ⟨by decide, by decide⟩ 24 2 (WD_get (by decide)) rfl rfl (Nat.le_of_ble_eq_true rfl) dX6_height_86 ?_
          rintro _ _ rfl
          refine g_lret (u := (redP u3 24 (hiA u3 ii.toNat) (hiB u3))) C T dX6_height_89 ?_
          refine ⟨_, rfl, Or.inr ⟨by omega, by omega, ((hG.fr.tr (FrC.f24 (fun c hc => redP_c hc))).tr (FrC.of (fun c hc => hLY.fr c (by omega)))).tr (FrC.f24 (fun c hc => redP_c hc)), u1, cnt, hG, hcn, hT, Or.inr ⟨hHold, k, hk, Or.inr ⟨hk0, u3, hLY, ?_⟩⟩⟩⟩
          rw [redP_0', redP_1']
          rcases (show pt = 0 ∨ pt = 1 by omega) with hp | hp
          · exact Or.inl ⟨hp, if_pos hp⟩
          · exact Or.inr ⟨hp, if_neg (by omega)⟩
        · refine g_ldc2 (-1000000000000004) C wk_X6_177 (by decide) dX6_height_54 ?_
          refine g_lret (u := u2) C T dX6_height_57 ?_
          obtain ⟨hk0, hu2⟩ : k = 0 ∧ u2 = u1 := by
            rcases hz with ⟨h1, _, h2⟩ | ⟨_, h, _⟩
            · exact ⟨h1, h2⟩
            · exact absurd ((bZ_t trivial).symm.trans (h.symm.trans h4)) (by decide)
          subst hu2
          exact ⟨_, rfl, Or.inr ⟨by omega, by omega, hG.fr, u2, cnt, hG, hcn, hT, Or.inr ⟨hHold, k, hk, Or.inl ⟨hk0, rfl⟩⟩⟩⟩
      · refine g_ldc2 (-1000000000000002) C wk_X6_175 (by decide) dX6_height_36 ?_
        refine g_lret (u := u1) C T dX6_height_39 ?_
        exact ⟨_, rfl, Or.inr ⟨by omega, by omega, hG.fr, u1, cnt, hG, hcn, hT, Or.inl ⟨h3, rfl⟩⟩⟩
    · refine g_ldc2 (-1000000000000001) C wk_X6_173 (by decide) dX6_height_18 ?_
      refine g_lret (u := σ) C T dX6_height_21 ?_
      exact ⟨_, rfl, Or.inl ⟨by omega, rfl, rfl⟩⟩
theorem up2_fr {σ : Nat → Nat → Int} {od p q r : Nat} {z1 z2 : Int} {c : Nat} (h1 : c ≠ 12) (h2 : c ≠ 13) : up (up (kpS σ od p q r) 13 3 z1) 12 1 z2 c = σ c ∧ up (kpS σ od p q r) 12 1 z2 c = σ c := by
  have h : kpS σ od p q r c = σ c := by unfold kpS; rw [up_c h2, up_c h2, up_c h2]
  exact ⟨by rw [up_c h1, up_c h2, h], by rw [up_c h1, h]⟩
theorem BFn.b {σ u : Nat → Nat → Int} {nn : Nat} (h : BFn σ nn u) : (u 12 1 = 0 ∨ u 12 1 = 3 ∨ u 12 1 = 4) ∧ ∀ c, c ≠ 12 → c ≠ 13 → u c = σ c := by
  obtain ⟨σ0, rfl, ⟨f, q, r, hs, ⟨_, rfl⟩, _⟩ | ⟨_, ⟨f, q, r, hs, h | h, _⟩ | ⟨rfl, _⟩⟩⟩ := h
  · exact ⟨Or.inr (Or.inl (up_s _ _ _ _)), fun c h1 h2 => by rw [(up2_fr (z1 := 0) h1 h2).2, up_c h1]⟩
  · obtain ⟨s, _, _, _, _, rfl⟩ := h
    exact ⟨Or.inr (Or.inr (up_s _ _ _ _)), fun c h1 h2 => by rw [(up2_fr h1 h2).1, up_c h1]⟩
  · obtain ⟨_, _, _, rfl⟩ := h
    exact ⟨Or.inr (Or.inr (up_s _ _ _ _)), fun c h1 h2 => by rw [(up2_fr h1 h2).1, up_c h1]⟩
  · exact ⟨Or.inl (up_s _ _ _ _), fun c h1 _ => up_c h1⟩
def BaC (S : Prop) (u1 : Nat → Nat → Int) (nn : Nat) (i z : Int) : Prop := (S ∧ z = -2) ∨ (¬ S ∧ ∃ u2, BFn u1 nn u2 ∧ ((i = -1 ∧ z = u2 12 1) ∨ (i ≠ -1 ∧ ((i < u2 12 1 ∧ z = u2 13 i.toNat) ∨ (¬ i < u2 12 1 ∧ z = -1)))))
set_option maxHeartbeats 4000000 in
set_option maxRecDepth 20000 in
theorem c_X6_bar (g : Gx) {q : Nat → Nat} {σ : Nat → Nat → Int} {nn : Nat} (hS : HS σ 5 nn) {ii : Int} (h_ii : I32 ii) : MC g yX6_bar cX6_bar 2 ((some .int)) 6 149 (WC g q σ) [.ref (q 0), .int (iZ ii)] (fun u => WC g q u) (pI (fun z u => (¬ (-1 ≤ ii ∧ ii ≤ 3) ∧ z = -1 ∧ u = σ) ∨ ((-1 ≤ ii ∧ ii ≤ 3) ∧ FrC σ u ∧ ∃ u1, GA σ 5 nn u1 ∧ BaC (HoldP (σ 2) (σ 3) (σ 4) (mo (σ 2) (σ 5) nn) nn 1 1) u1 nn ii z))) := by
  refine MC_intro (own := RX6) rfl (by decide) (Nat.le_of_ble_eq_true rfl) (fun K C T => ?_)
  show GJ g K (WC g q σ) 0 [(0, .ref (q 0)), (1, .int (iZ ii))] []
  refine g_iload_n 1 C rfl dX6_bar_0 rfl ?_
  refine g_iconst C dX6_bar_1 ?_
  refine g_icmp_lt 10 C h_ii (by unfold I32 at *; omega) dX6_bar_2 (by decide) (fun h1 => ?_) (fun h1 => ?_)
  · refine g_iconst C dX6_bar_10 ?_
    refine g_iret (u := σ) C T dX6_bar_11 ?_
    exact ⟨_, rfl, Or.inl ⟨by omega, rfl, rfl⟩⟩
  · refine g_iload_n 1 C rfl dX6_bar_5 rfl ?_
    refine g_iconst C dX6_bar_6 ?_
    refine g_icmp_lt 12 C h_ii (by unfold I32 at *; omega) dX6_bar_7 (by decide) (fun h2 => ?_) (fun h2 => ?_)
    · refine g_aload_n 0 C rfl dX6_bar_12 rfl ?_
      refine g_aload_n 0 C rfl dX6_bar_13 rfl ?_
      refine gf_X6_12 C dX6_bar_14 ?_
      refine gf_X6_91 C dX6_bar_17 ?_
      refine g_callI C (c_X6_holdsUnder g (σ := σ) (nn := nn) (lc := 5) (Or.inl rfl) hS) gv_X6_134 yd_X6_holdsUnder ⟨by decide, by decide⟩ 0 6 (WD_get (by decide)) rfl rfl (Nat.le_of_ble_eq_true rfl) dX6_bar_20 ?_
      rintro _ u1 ⟨hG, rfl⟩
      obtain ⟨cnt, hcn, hT⟩ := hS.tb hG
      refine g_beq 29 C dX6_bar_23 (by decide) (fun h3 => ?_) (fun h3 => ?_)
      · have hHold := h3
        refine g_aload_n 0 C rfl dX6_bar_29 rfl ?_
        refine gf_X6_35 C dX6_bar_30 ?_
        have hSu := hS.fr hG.fr
        refine g_callV C (c_X1_find g (σ := u1) (nn := nn) hSu.1 hSu.2.1.1.1 hSu.2.1.1.2 hSu.hx hSu.hlB (fun i hi => by rw [hG.2.1 i hi]; exact hS.hmo i hi)) gv_X6_187 yd_X1_find ⟨by decide, by decide⟩ 12 1 (WD_get (by decide)) rfl rfl (Nat.le_of_ble_eq_true rfl) dX6_bar_33 ?_
        intro u2 hB
        have hBb := hB.b
        refine g_iload_n 1 C rfl dX6_bar_36 rfl ?_
        refine g_iconst C dX6_bar_37 ?_
        refine g_icmp_ne 49 C h_ii (by unfold I32 at *; omega) dX6_bar_38 (by decide) (fun h4 => ?_) (fun h4 => ?_)
        · refine g_iload_n 1 C rfl dX6_bar_49 rfl ?_
          refine g_aload_n 0 C rfl dX6_bar_50 rfl ?_
          refine gf_X6_35 C dX6_bar_51 ?_
          refine gf_X6_190 C dX6_bar_54 ?_
          refine g_icmp_ge 72 C h_ii (by have h9 := hBb.1; unfold I32; omega) dX6_bar_57 (by decide) (fun h5 => ?_) (fun h5 => ?_)
          · refine g_iconst C dX6_bar_72 ?_
            refine g_iret (u := u2) C T dX6_bar_73 ?_
            exact ⟨_, rfl, Or.inr ⟨by omega, hG.fr.tr (FrC.of (fun c hc => hBb.2 c (by omega) (by omega))), u1, hG, Or.inr ⟨hHold, u2, hB, Or.inr ⟨by omega, Or.inr ⟨by omega, rfl⟩⟩⟩⟩⟩
          · refine g_aload_n 0 C rfl dX6_bar_60 rfl ?_
            refine gf_X6_35 C dX6_bar_61 ?_
            refine gf_X6_193 C dX6_bar_64 ?_
            refine g_iload_n 1 C rfl dX6_bar_67 rfl ?_
            refine g_iald C 13 ((ii).toNat) (by decide) (fun _ => rfl) (by omega) (by omega) (by decide) dX6_bar_68 ?_
            refine g_goto 73 C dX6_bar_69 (by decide) ?_
            refine g_iret (u := u2) C T dX6_bar_73 ?_
            exact ⟨_, rfl, Or.inr ⟨by omega, hG.fr.tr (FrC.of (fun c hc => hBb.2 c (by omega) (by omega))), u1, hG, Or.inr ⟨hHold, u2, hB, Or.inr ⟨by omega, Or.inl ⟨by omega, rfl⟩⟩⟩⟩⟩
        · refine g_aload_n 0 C rfl dX6_bar_41 rfl ?_
          refine gf_X6_35 C dX6_bar_42 ?_
          refine gf_X6_190 C dX6_bar_45 ?_
          refine g_iret (u := u2) C T dX6_bar_48 ?_
          exact ⟨_, rfl, Or.inr ⟨by omega, hG.fr.tr (FrC.of (fun c hc => hBb.2 c (by omega) (by omega))), u1, hG, Or.inr ⟨hHold, u2, hB, Or.inl ⟨by omega, rfl⟩⟩⟩⟩
      · refine g_bipush C dX6_bar_26 (by decide) ?_
        refine g_iret (u := u1) C T dX6_bar_28 ?_
        exact ⟨_, rfl, Or.inr ⟨by omega, hG.fr, u1, hG, Or.inl ⟨h3, rfl⟩⟩⟩
    · refine g_iconst C dX6_bar_10 ?_
      refine g_iret (u := σ) C T dX6_bar_11 ?_
      exact ⟨_, rfl, Or.inl ⟨by omega, rfl, rfl⟩⟩
/-- the least that the arch may be thinned by, as a fraction -/
def FacP (x l u m : Nat → Int) (n : Nat) (a b : Int) : Prop := PQ a b ∧ Nat.gcd a.natAbs b.natAbs = 1 ∧ HoldP x l u m n a b ∧ ∀ a' b' : Int, 0 ≤ a' → 0 < b' → HoldP x l u m n a' b' → a * b' ≤ a' * b
def NoFac (x l u m : Nat → Int) (n : Nat) : Prop := ∀ a b : Int, 0 ≤ a → 0 < b → ¬ HoldP x l u m n a b
theorem LF.fac {σ u1 u : Nat → Nat → Int} {lc nn cnt : Nat} (hG : GA σ lc nn u1) (hc : u1 7 1 = (cnt : Int)) (hT : TB u1 cnt) (h : LF u1 cnt u) : FacP (σ 2) (σ 3) (σ 4) (mo (σ 2) (σ lc) nn) nn (u 24 0) (u 24 1) := by
  obtain ⟨h1, h2, h3, h4⟩ := h
  rw [hold_iff hG hc hT] at h3
  refine ⟨h1, h2, h3, fun a' b' ha hb hh => ?_⟩
  rw [← hold_iff hG hc hT] at hh
  exact h4 a' b' ha hb hh.1 hh.2
theorem LF.no {σ u1 : Nat → Nat → Int} {lc nn cnt : Nat} (hG : GA σ lc nn u1) (hc : u1 7 1 = (cnt : Int)) (hT : TB u1 cnt) (h : ∀ a b : Int, 0 ≤ a → 0 < b → ¬ (Str u1 cnt a b ∧ Bnt u1 cnt a b)) : NoFac (σ 2) (σ 3) (σ 4) (mo (σ 2) (σ lc) nn) nn := by
  intro a b ha hb hh
  rw [← hold_iff hG hc hT] at hh
  exact h a b ha hb hh
def FcC (x l u m : Nat → Int) (n : Nat) (pt z : Int) : Prop := (∃ a b, FacP x l u m n a b ∧ ((pt = 0 ∧ z = a) ∨ (pt = 1 ∧ z = b))) ∨ (NoFac x l u m n ∧ z = -4)
set_option maxHeartbeats 4000000 in
set_option maxRecDepth 20000 in
theorem c_X6_factor (g : Gx) {q : Nat → Nat} {σ : Nat → Nat → Int} {nn : Nat} (hS : HS σ 5 nn) {pt : Int} (h_pt : I32 pt) : MC g yX6_factor cX6_factor 2 ((some .long)) 4 102 (WC g q σ) [.ref (q 0), .int (iZ pt)] (fun u => WC g q u) (pL (fun z u => (¬ (pt = 0 ∨ pt = 1) ∧ z = -1 ∧ u = σ) ∨ ((pt = 0 ∨ pt = 1) ∧ FrC σ u ∧ FcC (σ 2) (σ 3) (σ 4) (mo (σ 2) (σ 5) nn) nn pt z))) := by
  refine MC_intro (own := RX6) rfl (by decide) (Nat.le_of_ble_eq_true rfl) (fun K C T => ?_)
  show GJ g K (WC g q σ) 0 [(0, .ref (q 0)), (1, .int (iZ pt))] []
  refine g_iload_n 1 C rfl dX6_factor_0 rfl ?_
  refine g_callSI C (c_X6_isChoice g h_pt) gs_X6_138 yd_X6_isChoice ⟨by decide, by decide⟩ rfl (Nat.le_of_ble_eq_true rfl) dX6_factor_1 ?_
  rintro _ rfl
  refine g_bne 11 C dX6_factor_4 (by decide) (fun h1 => ?_) (fun h1 => ?_)
  · refine g_aload_n 0 C rfl dX6_factor_11 rfl ?_
    refine gf_X6_21 C dX6_factor_12 ?_
    refine g_aload_n 0 C rfl dX6_factor_15 rfl ?_
    refine gf_X6_12 C dX6_factor_16 ?_
    refine gf_X6_91 C dX6_factor_19 ?_
    refine g_callV C (c_X5_gather g (σ := σ) (nn := nn) (lc := 5) hS.1 hS.2.1.1.1 hS.2.1.1.2 (by omega) hS.hx hS.hl hS.hmo) gv_X6_199 yd_X5_gather ⟨by decide, by decide⟩ 7 5 (WD_get (by decide)) rfl rfl (Nat.le_of_ble_eq_true rfl) dX6_factor_22 ?_
    intro u1 hG
    obtain ⟨cnt, hcn, hT⟩ := hS.tb hG
    refine g_aload_n 0 C rfl dX6_factor_25 rfl ?_
    refine gf_X6_21 C dX6_factor_26 ?_
    refine g_aload_n 0 C rfl dX6_factor_29 rfl ?_
    refine gf_X6_52 C dX6_factor_30 ?_
    refine g_callI C (c_X5_leastFactor g (σ := u1) hT) gv_X6_202 yd_X5_leastFactor ⟨by decide, by decide⟩ 7 5 (WD_get (by decide)) rfl rfl (Nat.le_of_ble_eq_true rfl) dX6_factor_33 ?_
    rintro z u2 ⟨hF2, hz⟩
    refine g_if_ne 43 C (by rcases hz with h | h <;> unfold I32 <;> omega) dX6_factor_36 (by decide) (fun h2 => ?_) (fun h2 => ?_)
    · refine g_aload_n 0 C rfl dX6_factor_43 rfl ?_
      refine gf_X6_52 C dX6_factor_44 ?_
      refine g_iload_n 1 C rfl dX6_factor_47 rfl ?_
      refine g_callL C (c_X2_part g (σ := u2) h_pt) gv_X6_169 yd_X2_part ⟨by decide, by decide⟩ 24 2 (WD_get (by decide)) rfl rfl (Nat.le_of_ble_eq_true rfl) dX6_factor_48 ?_
      rintro _ _ rfl
      refine g_lret (u := u2) C T dX6_factor_51 ?_
      rcases hz with hz | hz
      · refine ⟨_, rfl, Or.inr ⟨by omega, hG.fr.tr (FrC.f24 hF2), Or.inl ⟨_, _, hz.2.fac hG hcn hT, ?_⟩⟩⟩
        rcases (show pt = 0 ∨ pt = 1 by omega) with hp | hp
        · exact Or.inl ⟨hp, if_pos hp⟩
        · exact Or.inr ⟨hp, if_neg (by omega)⟩
      · omega
    · refine g_ldc2 (-4) C wk_X6_156 (by decide) dX6_factor_39 ?_
      refine g_lret (u := u2) C T dX6_factor_42 ?_
      rcases hz with hz | hz
      · omega
      · exact ⟨_, rfl, Or.inr ⟨by omega, hG.fr.tr (FrC.f24 hF2), Or.inr ⟨LF.no hG hcn hT hz.2, rfl⟩⟩⟩
  · refine g_ldc2 (-1) C wk_X6_141 (by decide) dX6_factor_7 ?_
    refine g_lret (u := σ) C T dX6_factor_10 ?_
    exact ⟨_, rfl, Or.inl ⟨by omega, rfl, rfl⟩⟩
def FtI (x l u m : Nat → Int) (n : Nat) (a b k d : Int) (i : Nat) : Prop := l i * x n * d ≤ (a * (x n - x i) + b * x i) * d + m i * k ∧ (a * (x n - x i) + b * x i) * d + m i * k ≤ u i * x n * d
set_option maxHeartbeats 4000000 in
set_option maxRecDepth 20000 in
theorem lp_X6_fits {g : Gx} {K : Kx} {q : Nat → Nat} {σ : Nat → Nat → Int} {nn : Nat} (hS : HS σ 5 nn) {aa ba ka da : Int} (ha : -20 ≤ aa ∧ aa ≤ 20) (hb : -20 ≤ ba ∧ ba ≤ 20) (hk : 0 ≤ ka ∧ ka ≤ 1000) (hd : 1 ≤ da ∧ da ≤ 1000) {τ : Nat → Nat → Int} (hW : WG σ 5 nn τ) (C : CX g K cX6_fits RX6 12 2 46) (T : RT g K (some .int) (fun u => WC g q u) (pI (fun z u => FrC σ u ∧ ((¬ ((-20 ≤ aa ∧ aa ≤ 20) ∧ (-20 ≤ ba ∧ ba ≤ 20) ∧ (0 ≤ ka ∧ ka ≤ 1000) ∧ (1 ≤ da ∧ da ≤ 1000)) ∧ z = -1) ∨ (((-20 ≤ aa ∧ aa ≤ 20) ∧ (-20 ≤ ba ∧ ba ≤ 20) ∧ (0 ≤ ka ∧ ka ≤ 1000) ∧ (1 ≤ da ∧ da ≤ 1000)) ∧ z = bZ (∀ i, i ≤ nn → FtI (σ 2) (σ 3) (σ 4) (mo (σ 2) (σ 5) nn) nn aa ba ka da i)))))) : ∀ (d i : Nat), i ≤ nn + 1 → nn + 1 < i + d → (∀ i', i' < i → FtI (σ 2) (σ 3) (σ 4) (mo (σ 2) (σ 5) nn) nn aa ba ka da i') → GJ g K (WC g q τ) 70 [(0, .ref (q 0)), (1, .int (iZ aa)), (2, .int (iZ ba)), (3, .int (iZ ka)), (4, .int (iZ da)), (5, .long (lZ (σ 2 nn))), (7, .int (iZ (i : Int)))] [] := by
  intro d
  induction d with
  | zero => intro i k1 k2; omega
  | succ d ih =>
    intro i k1 k2 hI
    have hn6 := hS.2.1.1.2
    refine g_iload 6 C rfl dX6_fits_70 ?_
    refine g_aload_n 0 C rfl dX6_fits_72 rfl ?_
    refine gf_X6_12 C dX6_fits_73 ?_
    refine gf_X6_64 C dX6_fits_76 ?_
    rw [show τ 1 0 = (nn : Int) from ((congrFun (hW.1 1 (by decide)) 0).trans hS.1)]
    refine g_icmp_gt 195 C (by unfold I32; omega) (by unfold I32; omega) dX6_fits_79 (by decide) (fun h1 => ?_) (fun h1 => ?_)
    · refine g_iconst C dX6_fits_195 ?_
      refine g_iret (u := τ) C T dX6_fits_196 ?_
      exact ⟨_, rfl, ⟨fun c hc => hW.1 c (by omega), by rw [hW.1 8 (by decide)], by rw [hW.1 9 (by decide)], by rw [hW.1 10 (by decide)]⟩, Or.inr ⟨⟨ha, hb, hk, hd⟩, (bZ_t (fun i' h9 => hI i' (by omega))).symm⟩⟩
    · refine g_iload_n 1 C rfl dX6_fits_82 rfl ?_
      refine g_i2l C dX6_fits_83 (by unfold I32; omega) ?_
      refine g_lload 5 C rfl dX6_fits_84 ?_
      refine g_aload_n 0 C rfl dX6_fits_86 rfl ?_
      refine gf_X6_12 C dX6_fits_87 ?_
      refine gf_X6_68 C dX6_fits_90 ?_
      refine g_iload 6 C rfl dX6_fits_93 ?_
      refine g_iald C 2 i (by decide) (fun _ => rfl) (by omega) (by omega) (by decide) dX6_fits_95 ?_
      rw [show τ 2 i = σ 2 i from congrFun (hW.1 2 (by decide)) _]
      refine g_i2l C dX6_fits_96 (by have h9 := hS.hx i (by omega); unfold I32; omega) ?_
      refine g_lsub C dX6_fits_97 ?_
      refine g_lmul C dX6_fits_98 ?_
      refine g_iload_n 2 C rfl dX6_fits_99 rfl ?_
      refine g_i2l C dX6_fits_100 (by unfold I32; omega) ?_
      refine g_aload_n 0 C rfl dX6_fits_101 rfl ?_
      refine gf_X6_12 C dX6_fits_102 ?_
      refine gf_X6_68 C dX6_fits_105 ?_
      refine g_iload 6 C rfl dX6_fits_108 ?_
      refine g_iald C 2 i (by decide) (fun _ => rfl) (by omega) (by omega) (by decide) dX6_fits_110 ?_
      rw [show τ 2 i = σ 2 i from congrFun (hW.1 2 (by decide)) _]
      refine g_i2l C dX6_fits_111 (by have h9 := hS.hx i (by omega); unfold I32; omega) ?_
      refine g_lmul C dX6_fits_112 ?_
      refine g_ladd C dX6_fits_113 ?_
      refine g_lname (fun w2 ew2 => ?_)
      refine g_lstore (lv' := [(0, .ref (q 0)), (1, .int (iZ aa)), (2, .int (iZ ba)), (3, .int (iZ ka)), (4, .int (iZ da)), (5, .long (lZ (σ 2 nn))), (7, .int (iZ (i : Int))), (8, .long (lZ w2))]) [1, 2, 3, 4, 5, 6, 7, 0] C dX6_fits_114 (by decide) rfl ?_
      refine g_lload 7 C rfl dX6_fits_116 ?_
      refine g_iload 4 C rfl dX6_fits_118 ?_
      refine g_i2l C dX6_fits_120 (by unfold I32; omega) ?_
      refine g_lmul C dX6_fits_121 ?_
      refine g_aload_n 0 C rfl dX6_fits_122 rfl ?_
      refine gf_X6_12 C dX6_fits_123 ?_
      refine gf_X6_131 C dX6_fits_126 ?_
      refine g_iload 6 C rfl dX6_fits_129 ?_
      refine g_iald C 6 i (by decide) (fun _ => rfl) (by omega) (by omega) (by decide) dX6_fits_131 ?_
      rw [show τ 6 i = mo (σ 2) (σ 5) nn i from hW.2 _ (by omega)]
      refine g_i2l C dX6_fits_132 ((hS.hmo i (by omega)).I32 (by decide)) ?_
      refine g_iload_n 3 C rfl dX6_fits_133 rfl ?_
      refine g_i2l C dX6_fits_134 (by unfold I32; omega) ?_
      refine g_lmul C dX6_fits_135 ?_
      refine g_ladd C dX6_fits_136 ?_
      refine g_lname (fun w3 ew3 => ?_)
      refine g_lstore (lv' := [(0, .ref (q 0)), (1, .int (iZ aa)), (2, .int (iZ ba)), (3, .int (iZ ka)), (4, .int (iZ da)), (5, .long (lZ (σ 2 nn))), (7, .int (iZ (i : Int))), (8, .long (lZ w2)), (10, .long (lZ w3))]) [1, 2, 3, 4, 5, 6, 7, 8, 0] C dX6_fits_137 (by decide) rfl ?_
      have eL : w3 = (aa * (σ 2 nn - σ 2 i) + ba * σ 2 i) * da + mo (σ 2) (σ 5) nn i * ka := by rw [ew3, ew2]
      have eFt : ((σ 3 i * σ 2 nn * da ≤ w3) ∧ (w3 ≤ σ 4 i * σ 2 nn * da)) → FtI (σ 2) (σ 3) (σ 4) (mo (σ 2) (σ 5) nn) nn aa ba ka da i := fun h => by unfold FtI; rw [← eL]; exact h
      have eFn : FtI (σ 2) (σ 3) (σ 4) (mo (σ 2) (σ 5) nn) nn aa ba ka da i → ((σ 3 i * σ 2 nn * da ≤ w3) ∧ (w3 ≤ σ 4 i * σ 2 nn * da)) := fun h => by unfold FtI at h; rw [← eL] at h; exact h
      have xn := hS.hx nn (Nat.le_refl _)
      have xi := hS.hx i (by omega)
      have hl := hS.hl i (by omega)
      have bL : Bd w3 100000000 := by rw [eL]; exact (Bd.add (Bd.mul (Bd.add (Bd.mul (show Bd aa 20 from ⟨by omega, by omega⟩) (show Bd (σ 2 nn - σ 2 i) 20 from ⟨by omega, by omega⟩)) (Bd.mul (show Bd ba 20 from ⟨by omega, by omega⟩) (show Bd (σ 2 i) 20 from ⟨by omega, by omega⟩))) (show Bd da 1000 from ⟨by omega, by omega⟩)) (Bd.mul (hS.hmo i (by omega)) (show Bd ka 1000 from ⟨by omega, by omega⟩))).mono (by decide)
      refine g_lload 8 C rfl dX6_fits_139 ?_
      refine g_aload_n 0 C rfl dX6_fits_141 rfl ?_
      refine gf_X6_12 C dX6_fits_142 ?_
      refine gf_X6_79 C dX6_fits_145 ?_
      refine g_iload 6 C rfl dX6_fits_148 ?_
      refine g_iald C 3 i (by decide) (fun _ => rfl) (by omega) (by omega) (by decide) dX6_fits_150 ?_
      rw [show τ 3 i = σ 3 i from congrFun (hW.1 3 (by decide)) _]
      refine g_i2l C dX6_fits_151 (by have h9 := hS.hl i (by omega); unfold I32; omega) ?_
      refine g_lload 5 C rfl dX6_fits_152 ?_
      refine g_lmul C dX6_fits_154 ?_
      refine g_iload 4 C rfl dX6_fits_155 ?_
      refine g_i2l C dX6_fits_157 (by unfold I32; omega) ?_
      refine g_lmul C dX6_fits_158 ?_
      refine g_lcmp_lt 187 C (bL.I (by decide)) ((Bd.mul (Bd.mul (show Bd (σ 3 i) 20 from ⟨by omega, by omega⟩) (show Bd (σ 2 nn) 20 from ⟨by omega, by omega⟩)) (show Bd da 1000 from ⟨by omega, by omega⟩)).I (by decide)) dX6_fits_159 dX6_fits_160 (by decide) (fun h4 => ?_) (fun h4 => ?_)
      · refine g_iconst C dX6_fits_187 ?_
        refine g_iret (u := τ) C T dX6_fits_188 ?_
        exact ⟨_, rfl, ⟨fun c hc => hW.1 c (by omega), by rw [hW.1 8 (by decide)], by rw [hW.1 9 (by decide)], by rw [hW.1 10 (by decide)]⟩, Or.inr ⟨⟨ha, hb, hk, hd⟩, (bZ_f (fun h => by have h9 := eFn (h i (by omega)); omega)).symm⟩⟩
      · refine g_lload 8 C rfl dX6_fits_163 ?_
        refine g_aload_n 0 C rfl dX6_fits_165 rfl ?_
        refine gf_X6_12 C dX6_fits_166 ?_
        refine gf_X6_82 C dX6_fits_169 ?_
        refine g_iload 6 C rfl dX6_fits_172 ?_
        refine g_iald C 4 i (by decide) (fun _ => rfl) (by omega) (by omega) (by decide) dX6_fits_174 ?_
        rw [show τ 4 i = σ 4 i from congrFun (hW.1 4 (by decide)) _]
        refine g_i2l C dX6_fits_175 (by have h9 := hS.hl i (by omega); unfold I32; omega) ?_
        refine g_lload 5 C rfl dX6_fits_176 ?_
        refine g_lmul C dX6_fits_178 ?_
        refine g_iload 4 C rfl dX6_fits_179 ?_
        refine g_i2l C dX6_fits_181 (by unfold I32; omega) ?_
        refine g_lmul C dX6_fits_182 ?_
        refine g_lcmp_le 189 C (bL.I (by decide)) ((Bd.mul (Bd.mul (show Bd (σ 4 i) 20 from ⟨by omega, by omega⟩) (show Bd (σ 2 nn) 20 from ⟨by omega, by omega⟩)) (show Bd da 1000 from ⟨by omega, by omega⟩)).I (by decide)) dX6_fits_183 dX6_fits_184 (by decide) (fun h5 => ?_) (fun h5 => ?_)
        · refine g_iinc (lv' := [(0, .ref (q 0)), (1, .int (iZ aa)), (2, .int (iZ ba)), (3, .int (iZ ka)), (4, .int (iZ da)), (5, .long (lZ (σ 2 nn))), (7, .int (iZ ((i : Int) + 1))), (8, .long (lZ w2)), (10, .long (lZ w3))]) 6 [1, 2, 3, 4, 5, 6, 0, 7, 8] C rfl dX6_fits_189 (by decide) rfl ?_
          refine g_goto 70 C dX6_fits_192 (by decide) ?_
          refine g_lv [0, 1, 2, 3, 4, 5, 6] rfl ?_
          refine ih (i + 1) (by omega) (by omega) (fun i' h9 => ?_)
          rcases Nat.lt_or_ge i' i with h8 | h8
          · exact hI i' h8
          · obtain rfl : i' = i := by omega
            exact eFt ⟨h4, h5⟩
        · refine g_iconst C dX6_fits_187 ?_
          refine g_iret (u := τ) C T dX6_fits_188 ?_
          exact ⟨_, rfl, ⟨fun c hc => hW.1 c (by omega), by rw [hW.1 8 (by decide)], by rw [hW.1 9 (by decide)], by rw [hW.1 10 (by decide)]⟩, Or.inr ⟨⟨ha, hb, hk, hd⟩, (bZ_f (fun h => by have h9 := eFn (h i (by omega)); omega)).symm⟩⟩
set_option maxHeartbeats 4000000 in
set_option maxRecDepth 20000 in
theorem c_X6_fits (g : Gx) {q : Nat → Nat} {σ : Nat → Nat → Int} {nn : Nat} (hS : HS σ 5 nn) {aa ba ka da : Int} (h_aa : I32 aa) (h_ba : I32 ba) (h_ka : I32 ka) (h_da : I32 da) : MC g yX6_fits cX6_fits 12 ((some .int)) 2 46 (WC g q σ) [.ref (q 0), .int (iZ aa), .int (iZ ba), .int (iZ ka), .int (iZ da)] (fun u => WC g q u) (pI (fun z u => FrC σ u ∧ ((¬ ((-20 ≤ aa ∧ aa ≤ 20) ∧ (-20 ≤ ba ∧ ba ≤ 20) ∧ (0 ≤ ka ∧ ka ≤ 1000) ∧ (1 ≤ da ∧ da ≤ 1000)) ∧ z = -1) ∨ (((-20 ≤ aa ∧ aa ≤ 20) ∧ (-20 ≤ ba ∧ ba ≤ 20) ∧ (0 ≤ ka ∧ ka ≤ 1000) ∧ (1 ≤ da ∧ da ≤ 1000)) ∧ z = bZ (∀ i, i ≤ nn → FtI (σ 2) (σ 3) (σ 4) (mo (σ 2) (σ 5) nn) nn aa ba ka da i))))) := by
  refine MC_intro (own := RX6) rfl (by decide) (Nat.le_of_ble_eq_true rfl) (fun K C T => ?_)
  show GJ g K (WC g q σ) 0 [(0, .ref (q 0)), (1, .int (iZ aa)), (2, .int (iZ ba)), (3, .int (iZ ka)), (4, .int (iZ da))] []
  refine g_iload_n 1 C rfl dX6_fits_0 rfl ?_
  refine g_callSI C (c_X6_isHeight g h_aa) gs_X6_196 yd_X6_isHeight ⟨by decide, by decide⟩ rfl (Nat.le_of_ble_eq_true rfl) dX6_fits_1 ?_
  rintro _ rfl
  refine g_beq 14 C dX6_fits_4 (by decide) (fun h1 => ?_) (fun h1 => ?_)
  · refine g_iconst C dX6_fits_14 ?_
    refine g_iret (u := σ) C T dX6_fits_15 ?_
    exact ⟨_, rfl, FrC.rf σ, Or.inl ⟨by omega, rfl⟩⟩
  · refine g_iload_n 2 C rfl dX6_fits_7 rfl ?_
    refine g_callSI C (c_X6_isHeight g h_ba) gs_X6_196 yd_X6_isHeight ⟨by decide, by decide⟩ rfl (Nat.le_of_ble_eq_true rfl) dX6_fits_8 ?_
    rintro _ rfl
    refine g_bne 16 C dX6_fits_11 (by decide) (fun h2 => ?_) (fun h2 => ?_)
    · refine g_iload_n 3 C rfl dX6_fits_16 rfl ?_
      refine g_if_lt 41 C h_ka dX6_fits_17 (by decide) (fun h3 => ?_) (fun h3 => ?_)
      · refine g_iconst C dX6_fits_41 ?_
        refine g_iret (u := σ) C T dX6_fits_42 ?_
        exact ⟨_, rfl, FrC.rf σ, Or.inl ⟨by omega, rfl⟩⟩
      · refine g_iload_n 3 C rfl dX6_fits_20 rfl ?_
        refine g_sipush C dX6_fits_21 (by decide) ?_
        refine g_icmp_gt 41 C h_ka (by unfold I32 at *; omega) dX6_fits_24 (by decide) (fun h4 => ?_) (fun h4 => ?_)
        · refine g_iconst C dX6_fits_41 ?_
          refine g_iret (u := σ) C T dX6_fits_42 ?_
          exact ⟨_, rfl, FrC.rf σ, Or.inl ⟨by omega, rfl⟩⟩
        · refine g_iload 4 C rfl dX6_fits_27 ?_
          refine g_iconst C dX6_fits_29 ?_
          refine g_icmp_lt 41 C h_da (by unfold I32 at *; omega) dX6_fits_30 (by decide) (fun h5 => ?_) (fun h5 => ?_)
          · refine g_iconst C dX6_fits_41 ?_
            refine g_iret (u := σ) C T dX6_fits_42 ?_
            exact ⟨_, rfl, FrC.rf σ, Or.inl ⟨by omega, rfl⟩⟩
          · refine g_iload 4 C rfl dX6_fits_33 ?_
            refine g_sipush C dX6_fits_35 (by decide) ?_
            refine g_icmp_le 43 C h_da (by unfold I32 at *; omega) dX6_fits_38 (by decide) (fun h6 => ?_) (fun h6 => ?_)
            · refine g_aload_n 0 C rfl dX6_fits_43 rfl ?_
              refine gf_X6_12 C dX6_fits_44 ?_
              refine g_aload_n 0 C rfl dX6_fits_47 rfl ?_
              refine gf_X6_12 C dX6_fits_48 ?_
              refine gf_X6_91 C dX6_fits_51 ?_
              refine g_callV C (c_X0_weigh g (σ := σ) hS.1 hS.2.1.1.1 hS.2.1.1.2 (lc := 5) (Or.inl rfl)) gv_X6_127 yd_X0_weigh ⟨by decide, by decide⟩ 1 0 (WD_get (by decide)) rfl rfl (Nat.le_of_ble_eq_true rfl) dX6_fits_54 ?_
              intro τ hW
              refine g_aload_n 0 C rfl dX6_fits_57 rfl ?_
              refine gf_X6_12 C dX6_fits_58 ?_
              refine g_callI C (c_X0_span g (σ := τ) (nn := nn) (by rw [hW.1 1 (by decide)]; exact hS.1) hS.2.1.1.1 hS.2.1.1.2) gv_X6_161 yd_X0_span ⟨by decide, by decide⟩ 1 0 (WD_get (by decide)) rfl rfl (Nat.le_of_ble_eq_true rfl) dX6_fits_61 ?_
              rintro _ _ rfl
              rw [hW.1 2 (by decide)]
              refine g_i2l C dX6_fits_64 (by have h9 := hS.hx nn (Nat.le_refl _); unfold I32; omega) ?_
              refine g_lname (fun w7 ew7 => ?_)
              refine g_lstore (lv' := [(0, .ref (q 0)), (1, .int (iZ aa)), (2, .int (iZ ba)), (3, .int (iZ ka)), (4, .int (iZ da)), (5, .long (lZ w7))]) [1, 2, 3, 4, 5, 0] C dX6_fits_65 (by decide) rfl ?_
              refine g_iconst C dX6_fits_67 ?_
              refine g_istore (lv' := [(0, .ref (q 0)), (1, .int (iZ aa)), (2, .int (iZ ba)), (3, .int (iZ ka)), (4, .int (iZ da)), (5, .long (lZ w7)), (7, .int (iZ 0))]) [1, 2, 3, 4, 5, 6, 0] C dX6_fits_68 (by decide) rfl ?_
              subst ew7
              exact lp_X6_fits hS (by omega) (by omega) (by omega) (by omega) hW C T (nn + 2) 0 (by omega) (by omega) (fun i' h9 => absurd h9 (Nat.not_lt_zero _))
            · refine g_iconst C dX6_fits_41 ?_
              refine g_iret (u := σ) C T dX6_fits_42 ?_
              exact ⟨_, rfl, FrC.rf σ, Or.inl ⟨by omega, rfl⟩⟩
    · refine g_iconst C dX6_fits_14 ?_
      refine g_iret (u := σ) C T dX6_fits_15 ?_
      exact ⟨_, rfl, FrC.rf σ, Or.inl ⟨by omega, rfl⟩⟩
