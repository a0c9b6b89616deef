theorem moM_cg {σ u : Nat → Nat → Int} {n : Nat} (h1 : u 1 = σ 1) (h4 : u 4 = σ 4) : moM u n = moM σ n := by
  funext i
  unfold moM
  rw [h1, h4]
theorem AMb.cg {σ u : Nat → Nat → Int} {n : Nat} (h : AMb σ n) (h0 : u 0 0 = σ 0 0) (h1 : u 1 = σ 1) (h2 : u 2 = σ 2) (h3 : u 3 = σ 3) (h4 : u 4 = σ 4) : AMb u n := by
  unfold AMb
  rw [moM_cg h1 h4, h0, h1, h2, h3]
  exact h
theorem RTM_cg {σ u : Nat → Nat → Int} {n : Nat} (h1 : u 1 = σ 1) (h2 : u 2 = σ 2) (h3 : u 3 = σ 3) (h4 : u 4 = σ 4) : RTM u n = RTM σ n := by
  unfold RTM
  rw [moM_cg h1 h4, h1, h2, h3]
theorem RFM_cg {σ u : Nat → Nat → Int} {n : Nat} (h1 : u 1 = σ 1) (h2 : u 2 = σ 2) (h3 : u 3 = σ 3) (h4 : u 4 = σ 4) : RFM u n = RFM σ n := by
  unfold RFM
  rw [moM_cg h1 h4, h1, h2, h3]
/-- more load at a joint -/
abbrev mor (σ : Nat → Nat → Int) (p : Int) (i : Nat) : Nat → Nat → Int := up σ 4 i (σ 4 i + p)
def HJ (σ : Nat → Nat → Int) (nn : Nat) (p : Int) (i : Nat) (fa fb : Int) : Prop := ∃ u, FN (mor σ p i) nn u ∧ u 0 19 = fa ∧ u 0 20 = fb ∧ 0 < fb
def HN (σ : Nat → Nat → Int) (nn : Nat) (p : Int) (i : Nat) : Prop := ∃ u, FN (mor σ p i) nn u ∧ ¬ 0 < u 0 20
def HrM (σ : Nat → Nat → Int) (nn : Nat) (p z : Int) : Prop := (¬ (1 ≤ p ∧ p ≤ 10) ∧ z = -1) ∨ ((1 ≤ p ∧ p ≤ 10) ∧ ∃ fa fb : Nat → Int, (∃ j : Nat, 1 ≤ j ∧ j < nn ∧ (∀ i, 1 ≤ i → i < j → HJ σ nn p i (fa i) (fb i)) ∧ HN σ nn p j ∧ z = (j : Int)) ∨ ((∀ i, 1 ≤ i → i < nn → HJ σ nn p i (fa i) (fb i)) ∧ ∃ j : Nat, 1 ≤ j ∧ j < nn ∧ z = (j : Int) ∧ (∀ i, 1 ≤ i → i < nn → fa i * fb j ≤ fa j * fb i) ∧ ∀ i, 1 ≤ i → i < j → fa i * fb j < fa j * fb i))
/-- at the loop's head: what was worst so far -/
def HW (fa fb : Nat → Int) (i : Nat) (w a b : Int) : Prop := (i = 1 ∧ w = 0 ∧ a = 0 ∧ b = 1) ∨ ∃ j : Nat, 1 ≤ j ∧ j < i ∧ w = (j : Int) ∧ a = fa j ∧ b = fb j ∧ (∀ i', 1 ≤ i' → i' < i → fa i' * fb j ≤ fa j * fb i') ∧ ∀ i', 1 ≤ i' → i' < j → fa i' * fb j < fa j * fb i'
def updF (f : Nat → Int) (i : Nat) (z : Int) : Nat → Int := fun j => if j = i then z else f j
theorem updF_s (f : Nat → Int) (i : Nat) (z : Int) : updF f i z i = z := by simp [updF]
theorem updF_n {f : Nat → Int} {i j : Nat} {z : Int} (h : j ≠ i) : updF f i z j = f j := by simp [updF, h]
theorem hw_new {fa fb : Nat → Int} {i : Nat} {w a b A B : Int} (hi : 1 ≤ i) (hpos : ∀ j, 1 ≤ j → j < i → 0 < fb j) (hB : 0 < B) (h : HW fa fb i w a b) (hn : w = 0 ∨ a * B < A * b) : HW (updF fa i A) (updF fb i B) (i + 1) (i : Int) A B := by
  refine Or.inr ⟨i, hi, by omega, rfl, (updF_s _ _ _).symm, (updF_s _ _ _).symm, fun i' h1 h2 => ?_, fun i' h1 h2 => ?_⟩
  · rw [updF_s, updF_s]
    by_cases he : i' = i
    · subst he; rw [updF_s, updF_s]; exact Int.le_refl _
    · rw [updF_n he, updF_n he]
      rcases h with ⟨h3, _⟩ | ⟨j, h3, h4, h5, h6, h7, h8, h9⟩
      · omega
      · have hlt : a * B < A * b := hn.resolve_left (by omega)
        rw [h6, h7] at hlt
        have := cr_lt (a := A) (x := B) (b := fa j) (y := fb j) (c := fa i') (z := fb i') hB (hpos j h3 h4) (hpos i' h1 (by omega)) hlt (h8 i' h1 (by omega))
        omega
  · rw [updF_s, updF_s, updF_n (by omega), updF_n (by omega)]
    rcases h with ⟨h3, _⟩ | ⟨j, h3, h4, h5, h6, h7, h8, h9⟩
    · omega
    · have hlt : a * B < A * b := hn.resolve_left (by omega)
      rw [h6, h7] at hlt
      exact cr_lt (a := A) (x := B) (b := fa j) (y := fb j) (c := fa i') (z := fb i') hB (hpos j h3 h4) (hpos i' h1 h2) hlt (h8 i' h1 h2)
theorem hw_old {fa fb : Nat → Int} {i : Nat} {w a b A B : Int} (h : HW fa fb i w a b) (hn : ¬ (w = 0 ∨ a * B < A * b)) : HW (updF fa i A) (updF fb i B) (i + 1) w a b := by
  rcases h with ⟨h3, h4, _⟩ | ⟨j, h3, h4, h5, h6, h7, h8, h9⟩
  · exact absurd (Or.inl h4) hn
  · refine Or.inr ⟨j, h3, by omega, h5, by rw [updF_n (by omega)]; exact h6, by rw [updF_n (by omega)]; exact h7, fun i' h1 h2 => ?_, fun i' h1 h2 => ?_⟩
    · by_cases he : i' = i
      · subst he
        rw [updF_s, updF_s, updF_n (by omega), updF_n (by omega), ← h6, ← h7]
        have : ¬ a * B < A * b := fun h => hn (Or.inr h)
        omega
      · rw [updF_n he, updF_n he, updF_n (by omega), updF_n (by omega)]
        exact h8 i' h1 (by omega)
    · rw [updF_n (by omega), updF_n (by omega), updF_n (by omega), updF_n (by omega)]
      exact h9 i' h1 h2
theorem HJ.pos {σ : Nat → Nat → Int} {nn i : Nat} {p a b : Int} (h : HJ σ nn p i a b) : 0 < b ∧ Bd b 2457600000000 ∧ Bd a 2457600000000 := by
  obtain ⟨u, h1, rfl, rfl, h2⟩ := h
  exact ⟨h2, (h1.1.resolve_left (by omega)).2⟩
set_option maxHeartbeats 4000000 in
set_option maxRecDepth 20000 in
theorem lp_X7_harms {g : Gx} {K : Kx} {q : Nat → Nat} {σ : Nat → Nat → Int} {nn : Nat} {p : Int} (h_p : I32 p) (hp : 1 ≤ p ∧ p ≤ 10) (hn : σ 0 0 = (nn : Int)) (hn2 : 2 ≤ nn) (hn6 : nn ≤ 6) (hA : ∀ i, 1 ≤ i → i < nn → AMb (mor σ p i) nn) (C : CX g K cX7_harms RX7 9 4 119) (T : RT g K (some .int) (fun u => WM g q u) (pI (fun z u => Core σ u ∧ HrM σ nn p z))) : ∀ (d i : Nat), 1 ≤ i → i ≤ nn → nn < i + d → ∀ τ : Nat → Nat → Int, FrG σ τ → ∀ (fa fb : Nat → Int) (w oa ob : Int), (∀ i', 1 ≤ i' → i' < i → HJ σ nn p i' (fa i') (fb i')) → HW fa fb i w oa ob → GJ g K (WM g q τ) 24 [(0, .ref (q 0)), (1, .int (iZ p)), (2, .int (iZ w)), (3, .long (lZ oa)), (5, .long (lZ ob)), (7, .int (iZ (i : Int)))] [] := by
  intro d
  induction d with
  | zero => intro i k0 k1 k2; omega
  | succ d ih =>
    intro i k0 k1 k2 τ hF fa fb w oa ob hJ hW
    refine g_iload 5 C rfl dX7_harms_24 ?_
    refine g_aload_n 0 C rfl dX7_harms_26 rfl ?_
    refine gf_X7_7 C dX7_harms_27 ?_
    rw [show τ 0 0 = (nn : Int) from (hF.2.trans hn)]
    refine g_icmp_ge 110 C (by unfold I32; omega) (by unfold I32; omega) dX7_harms_30 (by decide) (fun h1 => ?_) (fun h1 => ?_)
    · refine g_iload_n 2 C rfl dX7_harms_110 rfl ?_
      refine g_iret (u := τ) C T dX7_harms_111 ?_
      refine ⟨_, rfl, hF.core, Or.inr ⟨hp, fa, fb, Or.inr ⟨fun i9 h1 h2 => hJ i9 h1 (by omega), ?_⟩⟩⟩
      rcases hW with h | ⟨j, h3, h4, h5, h6, h7, h8, h9⟩
      · omega
      · exact ⟨j, h3, by omega, h5, fun i9 h1 h2 => h8 i9 h1 (by omega), h9⟩
    · refine g_aload_n 0 C rfl dX7_harms_33 rfl ?_
      refine gf_X7_23 C dX7_harms_34 ?_
      refine g_iload 5 C rfl dX7_harms_37 ?_
      refine g_dup2 C dX7_harms_39 rfl rfl ?_
      refine g_iald C 4 i (by decide) (fun _ => rfl) (by omega) (by omega) (by decide) dX7_harms_40 ?_
      rw [show τ 4 i = σ 4 i from congrFun (hF.1 4 (by decide) (by decide) (by decide)) _]
      refine g_iload_n 1 C rfl dX7_harms_41 rfl ?_
      refine g_iadd C dX7_harms_42 ?_
      refine g_iast C 4 i (by decide) (fun _ => rfl) (by omega) (by omega) (by decide) dX7_harms_43 ?_
      refine g_aload_n 0 C rfl dX7_harms_44 rfl ?_
      have hAi := hA i (by omega) (by omega)
      have c1 : (up τ 4 i (σ 4 i + p)) 4 = (mor σ p i) 4 := by funext j; simp [up, hF.1 4 (by decide) (by decide) (by decide)]
      have c2 : ∀ c, c ≠ 0 → c ≠ 8 → c ≠ 9 → c ≠ 4 → (up τ 4 i (σ 4 i + p)) c = (mor σ p i) c := fun c h1 h2 h3 h4 => by rw [up_c h4, show mor σ p i c = σ c from up_c h4]; exact hF.1 c h1 h2 h3
      refine g_callI C (c_X7_findFactor g (σ := up τ 4 i (σ 4 i + p)) (nn := nn) (hAi.cg (by rw [up_c (by decide)]; exact hF.2) (c2 1 (by decide) (by decide) (by decide) (by decide)) (c2 2 (by decide) (by decide) (by decide) (by decide)) (c2 3 (by decide) (by decide) (by decide) (by decide)) c1)) gv_X7_201 yd_X7_findFactor ⟨by decide, by decide⟩ 0 7 (WD_get (by decide)) rfl rfl (Nat.le_of_ble_eq_true rfl) dX7_harms_45 ?_
      rintro _ u1 ⟨hG1, hN1, rfl⟩
      have hN2 : FN (mor σ p i) nn u1 := by
        unfold FN at hN1 ⊢
        rw [RTM_cg (c2 1 (by decide) (by decide) (by decide) (by decide)) (c2 2 (by decide) (by decide) (by decide) (by decide)) (c2 3 (by decide) (by decide) (by decide) (by decide)) c1] at hN1
        exact hN1
      refine g_istore (lv' := [(0, .ref (q 0)), (1, .int (iZ p)), (2, .int (iZ w)), (3, .long (lZ oa)), (5, .long (lZ ob)), (7, .int (iZ (i : Int))), (8, .int (iZ (bZ (0 < u1 0 20))))]) [1, 2, 3, 4, 5, 6, 0] C dX7_harms_48 (by decide) rfl ?_
      refine g_aload_n 0 C rfl dX7_harms_50 rfl ?_
      refine gf_X7_23 C dX7_harms_51 ?_
      refine g_iload 5 C rfl dX7_harms_54 ?_
      refine g_dup2 C dX7_harms_56 rfl rfl ?_
      refine g_iald C 4 i (by decide) (fun _ => rfl) (by omega) (by omega) (by decide) dX7_harms_57 ?_
      rw [show u1 4 i = σ 4 i + p from (congrFun (hG1.1 4 (by decide) (by decide) (by decide)) _).trans (up_s _ _ _ _)]
      refine g_iload_n 1 C rfl dX7_harms_58 rfl ?_
      refine g_isub C dX7_harms_59 ?_
      refine g_iast C 4 i (by decide) (fun _ => rfl) (by omega) (by omega) (by decide) dX7_harms_60 ?_
      have hF3 : FrG σ (up u1 4 i (σ 4 i + p - p)) := by
        refine ⟨fun c h0 h8 h9 => ?_, by rw [up_c (by decide), hG1.2, up_c (by decide)]; exact hF.2⟩
        by_cases h4 : c = 4
        · subst h4
          funext j
          by_cases hj : j = i
          · subst hj; rw [up_s]; omega
          · rw [up_k hj, hG1.1 4 (by decide) (by decide) (by decide), up_k hj, hF.1 4 (by decide) (by decide) (by decide)]
        · rw [up_c h4, hG1.1 c h0 h8 h9, up_c h4]; exact hF.1 c h0 h8 h9
      refine g_iload 6 C rfl dX7_harms_61 ?_
      refine g_bne 69 C dX7_harms_63 (by decide) (fun h2 => ?_) (fun h2 => ?_)
      · refine g_iload_n 2 C rfl dX7_harms_69 rfl ?_
        refine g_if_eq 90 C (by rcases hW with h | ⟨j, h3, h4, h5, _⟩ <;> unfold I32 <;> omega) dX7_harms_70 (by decide) (fun h3 => ?_) (fun h3 => ?_)
        · refine g_iload 5 C rfl dX7_harms_90 ?_
          refine g_istore_n (lv' := [(0, .ref (q 0)), (1, .int (iZ p)), (2, .int (iZ (i : Int))), (3, .long (lZ oa)), (5, .long (lZ ob)), (7, .int (iZ (i : Int))), (8, .int (iZ (bZ (0 < u1 0 20))))]) [1, 2, 0, 3, 4, 5, 6] C dX7_harms_92 rfl (by decide) rfl ?_
          refine g_aload_n 0 C rfl dX7_harms_93 rfl ?_
          refine gf_X7_194 C dX7_harms_94 ?_
          rw [show (up u1 4 i ((σ 4 i + p) - p)) 0 19 = u1 0 19 from rfl]
          refine g_lname (fun w4 ew4 => ?_)
          refine g_lstore_n (lv' := [(0, .ref (q 0)), (1, .int (iZ p)), (2, .int (iZ (i : Int))), (3, .long (lZ w4)), (5, .long (lZ ob)), (7, .int (iZ (i : Int))), (8, .int (iZ (bZ (0 < u1 0 20))))]) [1, 2, 3, 0, 4, 5, 6] C dX7_harms_97 rfl (by decide) rfl ?_
          refine g_aload_n 0 C rfl dX7_harms_98 rfl ?_
          refine gf_X7_191 C dX7_harms_99 ?_
          rw [show (up u1 4 i ((σ 4 i + p) - p)) 0 20 = u1 0 20 from rfl]
          refine g_lname (fun w5 ew5 => ?_)
          refine g_lstore (lv' := [(0, .ref (q 0)), (1, .int (iZ p)), (2, .int (iZ (i : Int))), (3, .long (lZ w4)), (5, .long (lZ w5)), (7, .int (iZ (i : Int))), (8, .int (iZ (bZ (0 < u1 0 20))))]) [1, 2, 3, 4, 0, 5, 6] C dX7_harms_102 (by decide) rfl ?_
          refine g_iinc (lv' := [(0, .ref (q 0)), (1, .int (iZ p)), (2, .int (iZ (i : Int))), (3, .long (lZ w4)), (5, .long (lZ w5)), (7, .int (iZ ((i : Int) + 1))), (8, .int (iZ (bZ (0 < u1 0 20))))]) 5 [1, 2, 3, 4, 5, 0, 6] C rfl dX7_harms_104 (by decide) rfl ?_
          refine g_goto 24 C dX7_harms_107 (by decide) ?_
          refine g_lv [0, 1, 2, 3, 4, 5] rfl ?_
          have hJ2 : ∀ i', 1 ≤ i' → i' < i + 1 → HJ σ nn p i' (updF fa i (u1 0 19) i') (updF fb i (u1 0 20) i') := fun i' h1 h2 => by
            by_cases he : i' = i
            · subst he; rw [updF_s, updF_s]; exact ⟨u1, hN2, rfl, rfl, by omega⟩
            · rw [updF_n he, updF_n he]; exact hJ i' h1 (by omega)
          subst ew5
          subst ew4
          exact ih (i + 1) (by omega) (by omega) (by omega) _ hF3 _ _ _ _ _ hJ2 (hw_new (by omega) (fun j h1 h2 => (hJ j h1 h2).pos.1) (by omega) hW (by omega))
        · refine g_aload_n 0 C rfl dX7_harms_73 rfl ?_
          refine gf_X7_194 C dX7_harms_74 ?_
          rw [show (up u1 4 i ((σ 4 i + p) - p)) 0 19 = u1 0 19 from rfl]
          refine g_aload_n 0 C rfl dX7_harms_77 rfl ?_
          refine gf_X7_191 C dX7_harms_78 ?_
          rw [show (up u1 4 i ((σ 4 i + p) - p)) 0 20 = u1 0 20 from rfl]
          refine g_lload_n 3 C rfl dX7_harms_81 rfl ?_
          refine g_lload 4 C rfl dX7_harms_82 ?_
          obtain ⟨hp1, hp2, hp3⟩ := hN2.1.resolve_left (by omega)
          have hab : 0 < ob ∧ Bd ob 2457600000000 ∧ Bd oa 2457600000000 := by
            rcases hW with h | ⟨j, h3, h4, h5, h6, h7, _⟩
            · omega
            · rw [h6, h7]; exact (hJ j h3 h4).pos
          refine g_callSI C (c_X7_compare g (a := u1 0 19) (x := u1 0 20) (b := oa) (y := ob) hp1 hab.1 (hp3.M (by decide)) (hp2.M (by decide)).2 (hab.2.2.M (by decide)) (hab.2.1.M (by decide)).2) gs_X7_131 yd_X7_compare ⟨by decide, by decide⟩ rfl (Nat.le_of_ble_eq_true rfl) dX7_harms_84 ?_
          rintro _ rfl
          have hcz := cmpZ_I (u1 0 19 * ob) (oa * u1 0 20)
          have hcp := @cmpZ_pos (u1 0 19 * ob) (oa * u1 0 20)
          refine g_if_le 104 C (by unfold I32; omega) dX7_harms_87 (by decide) (fun h6 => ?_) (fun h6 => ?_)
          · refine g_iinc (lv' := [(0, .ref (q 0)), (1, .int (iZ p)), (2, .int (iZ w)), (3, .long (lZ oa)), (5, .long (lZ ob)), (7, .int (iZ ((i : Int) + 1))), (8, .int (iZ (bZ (0 < u1 0 20))))]) 5 [1, 2, 3, 4, 5, 0, 6] C rfl dX7_harms_104 (by decide) rfl ?_
            refine g_goto 24 C dX7_harms_107 (by decide) ?_
            refine g_lv [0, 1, 2, 3, 4, 5] rfl ?_
            have hJ2 : ∀ i', 1 ≤ i' → i' < i + 1 → HJ σ nn p i' (updF fa i (u1 0 19) i') (updF fb i (u1 0 20) i') := fun i' h1 h2 => by
              by_cases he : i' = i
              · subst he; rw [updF_s, updF_s]; exact ⟨u1, hN2, rfl, rfl, by omega⟩
              · rw [updF_n he, updF_n he]; exact hJ i' h1 (by omega)
            exact ih (i + 1) (by omega) (by omega) (by omega) _ hF3 _ _ _ _ _ hJ2 (hw_old hW (by omega))
          · refine g_iload 5 C rfl dX7_harms_90 ?_
            refine g_istore_n (lv' := [(0, .ref (q 0)), (1, .int (iZ p)), (2, .int (iZ (i : Int))), (3, .long (lZ oa)), (5, .long (lZ ob)), (7, .int (iZ (i : Int))), (8, .int (iZ (bZ (0 < u1 0 20))))]) [1, 2, 0, 3, 4, 5, 6] C dX7_harms_92 rfl (by decide) rfl ?_
            refine g_aload_n 0 C rfl dX7_harms_93 rfl ?_
            refine gf_X7_194 C dX7_harms_94 ?_
            rw [show (up u1 4 i ((σ 4 i + p) - p)) 0 19 = u1 0 19 from rfl]
            refine g_lname (fun w7 ew7 => ?_)
            refine g_lstore_n (lv' := [(0, .ref (q 0)), (1, .int (iZ p)), (2, .int (iZ (i : Int))), (3, .long (lZ w7)), (5, .long (lZ ob)), (7, .int (iZ (i : Int))), (8, .int (iZ (bZ (0 < u1 0 20))))]) [1, 2, 3, 0, 4, 5, 6] C dX7_harms_97 rfl (by decide) rfl ?_
            refine g_aload_n 0 C rfl dX7_harms_98 rfl ?_
            refine gf_X7_191 C dX7_harms_99 ?_
            rw [show (up u1 4 i ((σ 4 i + p) - p)) 0 20 = u1 0 20 from rfl]
            refine g_lname (fun w8 ew8 => ?_)
            refine g_lstore (lv' := [(0, .ref (q 0)), (1, .int (iZ p)), (2, .int (iZ (i : Int))), (3, .long (lZ w7)), (5, .long (lZ w8)), (7, .int (iZ (i : Int))), (8, .int (iZ (bZ (0 < u1 0 20))))]) [1, 2, 3, 4, 0, 5, 6] C dX7_harms_102 (by decide) rfl ?_
            refine g_iinc (lv' := [(0, .ref (q 0)), (1, .int (iZ p)), (2, .int (iZ (i : Int))), (3, .long (lZ w7)), (5, .long (lZ w8)), (7, .int (iZ ((i : Int) + 1))), (8, .int (iZ (bZ (0 < u1 0 20))))]) 5 [1, 2, 3, 4, 5, 0, 6] C rfl dX7_harms_104 (by decide) rfl ?_
            refine g_goto 24 C dX7_harms_107 (by decide) ?_
            refine g_lv [0, 1, 2, 3, 4, 5] rfl ?_
            have hJ2 : ∀ i', 1 ≤ i' → i' < i + 1 → HJ σ nn p i' (updF fa i (u1 0 19) i') (updF fb i (u1 0 20) i') := fun i' h1 h2 => by
              by_cases he : i' = i
              · subst he; rw [updF_s, updF_s]; exact ⟨u1, hN2, rfl, rfl, by omega⟩
              · rw [updF_n he, updF_n he]; exact hJ i' h1 (by omega)
            subst ew8
            subst ew7
            exact ih (i + 1) (by omega) (by omega) (by omega) _ hF3 _ _ _ _ _ hJ2 (hw_new (by omega) (fun j h1 h2 => (hJ j h1 h2).pos.1) (by omega) hW (by omega))
      · refine g_iload 5 C rfl dX7_harms_66 ?_
        refine g_iret (u := (up u1 4 i ((σ 4 i + p) - p))) C T dX7_harms_68 ?_
        exact ⟨_, rfl, hF3.core, Or.inr ⟨hp, fa, fb, Or.inl ⟨i, by omega, by omega, hJ, ⟨u1, hN2, h2⟩, rfl⟩⟩⟩
set_option maxHeartbeats 4000000 in
set_option maxRecDepth 20000 in
theorem c_X7_harms (g : Gx) {q : Nat → Nat} {σ : Nat → Nat → Int} {nn : Nat} {p : Int} (h_p : I32 p) (hn : σ 0 0 = (nn : Int)) (hn2 : 2 ≤ nn) (hn6 : nn ≤ 6) (hA : 1 ≤ p ∧ p ≤ 10 → ∀ i, 1 ≤ i → i < nn → AMb (mor σ p i) nn) : MC g yX7_harms cX7_harms 9 ((some .int)) 4 119 (WM g q σ) [.ref (q 0), .int (iZ p)] (fun u => WM g q u) (pI (fun z u => Core σ u ∧ HrM σ nn p z)) := by
  refine MC_intro (own := RX7) rfl (by decide) (Nat.le_of_ble_eq_true rfl) (fun K C T => ?_)
  show GJ g K (WM g q σ) 0 [(0, .ref (q 0)), (1, .int (iZ p))] []
  refine g_iload_n 1 C rfl dX7_harms_0 rfl ?_
  refine g_i2l C dX7_harms_1 h_p ?_
  refine g_lconst 1 C dX7_harms_2 (by decide) ?_
  refine g_ldc2 10 C wk_X7_67 (by decide) dX7_harms_3 ?_
  refine g_callSI C (c_X7_in g (v := p) (a := 1) (b := 10) (I64_32 h_p) (by unfold I64; omega) (by unfold I64; omega)) gs_X7_59 yd_X7_in ⟨by decide, by decide⟩ rfl (Nat.le_of_ble_eq_true rfl) dX7_harms_6 ?_
  rintro _ rfl
  refine g_bne 14 C dX7_harms_9 (by decide) (fun h1 => ?_) (fun h1 => ?_)
  · refine g_iconst C dX7_harms_14 ?_
    refine g_istore_n (lv' := [(0, .ref (q 0)), (1, .int (iZ p)), (2, .int (iZ 0))]) [1, 2, 0] C dX7_harms_15 rfl (by decide) rfl ?_
    refine g_lconst 0 C dX7_harms_16 (by decide) ?_
    refine g_lstore_n (lv' := [(0, .ref (q 0)), (1, .int (iZ p)), (2, .int (iZ 0)), (3, .long (lZ 0))]) [1, 2, 3, 0] C dX7_harms_17 rfl (by decide) rfl ?_
    refine g_lconst 1 C dX7_harms_18 (by decide) ?_
    refine g_lstore (lv' := [(0, .ref (q 0)), (1, .int (iZ p)), (2, .int (iZ 0)), (3, .long (lZ 0)), (5, .long (lZ 1))]) [1, 2, 3, 4, 0] C dX7_harms_19 (by decide) rfl ?_
    refine g_iconst C dX7_harms_21 ?_
    refine g_istore (lv' := [(0, .ref (q 0)), (1, .int (iZ p)), (2, .int (iZ 0)), (3, .long (lZ 0)), (5, .long (lZ 1)), (7, .int (iZ 1))]) [1, 2, 3, 4, 5, 0] C dX7_harms_22 (by decide) rfl ?_
    exact lp_X7_harms h_p (by omega) hn hn2 hn6 (hA (by omega)) C T nn 1 (by omega) (by omega) (by omega) σ ⟨fun _ _ _ _ => rfl, rfl⟩ (fun _ => 0) (fun _ => 0) 0 0 1 (fun i' h1 h2 => absurd h1 (by omega)) (Or.inl ⟨rfl, rfl, rfl, rfl⟩)
  · refine g_iconst C dX7_harms_12 ?_
    refine g_iret (u := σ) C T dX7_harms_13 ?_
    exact ⟨_, rfl, Core.rf σ, Or.inl ⟨by omega, rfl⟩⟩
