/-- the rows of an arch -/
def RF (x l u m : Nat → Int) (n r c : Nat) : Int := if r = 2 * n + 2 then (if c = 2 then 1 else 0) else if r % 2 = 0 then rE x l m (x n) (r / 2) c else rO x u m (x n) (r / 2) c
abbrev RFM (σ : Nat → Nat → Int) (n : Nat) : Nat → Nat → Int := RF (σ 1) (σ 2) (σ 3) (moM σ n) n
theorem rows_RF {σ u : Nat → Nat → Int} {n : Nat} (h : rowsOK false σ u n) : ∀ r, r < 2 * n + 3 → ∀ c, c < 5 → rwf u r c = RFM σ n r c := by
  intro r hr c hc
  unfold RFM RF
  by_cases h1 : r = 2 * n + 2
  · rw [if_pos h1, h1]
    exact h.2.2.1 c hc
  · rw [if_neg h1]
    have h2 := h.2.1 (r / 2) (by omega) c hc
    by_cases h3 : r % 2 = 0
    · rw [if_pos h3]
      have e : 2 * (r / 2) = r := by omega
      rw [e] at h2
      exact h2.1
    · rw [if_neg h3]
      have e : 2 * (r / 2) + 1 = r := by omega
      rw [e] at h2
      exact h2.2
def AMb (σ : Nat → Nat → Int) (nn : Nat) : Prop := σ 0 0 = (nn : Int) ∧ 2 ≤ nn ∧ nn ≤ 6 ∧ (∀ i, i ≤ nn → 0 ≤ σ 1 i ∧ σ 1 i ≤ 20) ∧ (∀ i, i ≤ nn → -20 ≤ σ 2 i ∧ σ 2 i ≤ σ 3 i ∧ σ 3 i ≤ 20) ∧ ∀ i, i ≤ nn → Bd (moM σ nn i) 40000
theorem Bd.I32 {z : Int} {A : Int} (h : Bd z A) (hA : A < 2147483648) : I32 z := ⟨by have := h.1; omega, by have := h.2; omega⟩
theorem rbf_of {σ u : Nat → Nat → Int} {n : Nat} (hA : AMb σ n) (h : rowsOK false σ u n) : RBF u (2 * n + 3) := by
  obtain ⟨hn, h2, h6, hx, hl, hm⟩ := hA
  intro r hr
  rw [rows_RF h r hr 0 (by decide), rows_RF h r hr 1 (by decide), rows_RF h r hr 2 (by decide), rows_RF h r hr 3 (by decide), rows_RF h r hr 4 (by decide)]
  unfold RFM RF
  by_cases h1 : r = 2 * n + 2
  · simp only [if_pos h1]
    exact ⟨Bd.z (by decide), Bd.z (by decide), ⟨by decide, by decide⟩, rfl, Bd.z (by decide)⟩
  · simp only [if_neg h1]
    have a1 := hx (r / 2) (by omega)
    have a2 := hx n (by omega)
    have a3 := hl (r / 2) (by omega)
    have a4 := hm (r / 2) (by omega)
    have b1 : Bd (σ 1 n) 20 := ⟨by omega, by omega⟩
    have b2 : Bd (σ 2 (r / 2)) 20 := ⟨by omega, by omega⟩
    have b3 : Bd (σ 3 (r / 2)) 20 := ⟨by omega, by omega⟩
    by_cases h3 : r % 2 = 0
    · simp only [if_pos h3]
      exact ⟨⟨by show -20 ≤ σ 1 n - σ 1 (r / 2); omega, by show σ 1 n - σ 1 (r / 2) ≤ 20; omega⟩, ⟨by show -20 ≤ σ 1 (r / 2); omega, by show σ 1 (r / 2) ≤ 20; omega⟩, a4, rfl, b1.mul b2⟩
    · simp only [if_neg h3]
      exact ⟨⟨by show -20 ≤ -(σ 1 n - σ 1 (r / 2)); omega, by show -(σ 1 n - σ 1 (r / 2)) ≤ 20; omega⟩, ⟨by show -20 ≤ -σ 1 (r / 2); omega, by show -σ 1 (r / 2) ≤ 20; omega⟩, a4.neg, rfl, b1.neg.mul b3⟩
theorem det3_cg {f g : Nat → Nat → Int} {p q r x y z : Nat} (h : ∀ c, c = x ∨ c = y ∨ c = z → f p c = g p c ∧ f q c = g q c ∧ f r c = g r c) : det3 f p q r x y z = det3 g p q r x y z := by
  unfold det3
  rw [(h x (by simp)).1, (h x (by simp)).2.1, (h x (by simp)).2.2, (h y (by simp)).1, (h y (by simp)).2.1, (h y (by simp)).2.2, (h z (by simp)).1, (h z (by simp)).2.1, (h z (by simp)).2.2]
theorem Vx_cg {f g : Nat → Nat → Int} {nr p q r : Nat} {a b k d : Int} (h : ∀ r, r < nr → ∀ c, c < 5 → f r c = g r c) (hp : p < nr) (hq : q < nr) (hr : r < nr) : Vx f p q r a b k d ↔ Vx g p q r a b k d := by
  have e : ∀ x y z, x < 5 → y < 5 → z < 5 → det3 f p q r x y z = det3 g p q r x y z := fun x y z hx hy hz => det3_cg (fun c hc => by
    have h5 : c < 5 := by omega
    exact ⟨h p hp c h5, h q hq c h5, h r hr c h5⟩)
  unfold Vx
  rw [e 0 1 2 (by decide) (by decide) (by decide), e 4 1 2 (by decide) (by decide) (by decide), e 0 4 2 (by decide) (by decide) (by decide), e 0 1 4 (by decide) (by decide) (by decide)]
theorem KpF_cg {f g : Nat → Nat → Int} {nr : Nat} {a b k d : Int} (h : ∀ r, r < nr → ∀ c, c < 5 → f r c = g r c) : KpF f nr a b k d ↔ KpF g nr a b k d := by
  unfold KpF
  refine ⟨fun h1 r hr => ?_, fun h1 r hr => ?_⟩
  · rw [← h r hr 4 (by decide), ← h r hr 0 (by decide), ← h r hr 1 (by decide), ← h r hr 2 (by decide)]; exact h1 r hr
  · rw [h r hr 4 (by decide), h r hr 0 (by decide), h r hr 1 (by decide), h r hr 2 (by decide)]; exact h1 r hr
def AllT (nr p q r : Nat) : Prop := p < q ∧ q < r ∧ r < nr
theorem LI_cg {f g : Nat → Nat → Int} {nr : Nat} {τ : Nat → Nat → Int} (h : ∀ r, r < nr → ∀ c, c < 5 → f r c = g r c) (hI : LI f nr (AllT nr) τ) : LI g nr (AllT nr) τ := by
  refine ⟨hI.1, fun h0 p q r hs a b k d hv hk => ?_, fun h1 => ⟨(KpF_cg h).mp (hI.2.2 h1).1, ?_, fun p q r hs a b k d hv hk => ?_⟩⟩
  · exact hI.2.1 h0 p q r hs a b k d ((Vx_cg h (by unfold AllT at hs; omega) (by unfold AllT at hs; omega) hs.2.2).mpr hv) ((KpF_cg h).mpr hk)
  · obtain ⟨a, b, hab⟩ := (hI.2.2 h1).2.1
    exact ⟨a, b, (KpF_cg h).mp hab⟩
  · exact (hI.2.2 h1).2.2 p q r hs a b k d ((Vx_cg h (by unfold AllT at hs; omega) (by unfold AllT at hs; omega) hs.2.2).mpr hv) ((KpF_cg h).mpr hk)
/-- nothing but what is worked out -/
def FrA (σ u : Nat → Nat → Int) : Prop := (∀ c, c ≠ 0 → c ≠ 8 → c ≠ 9 → c ≠ 10 → u c = σ c) ∧ u 0 0 = σ 0 0
abbrev LN (σ : Nat → Nat → Int) (n : Nat) (u : Nat → Nat → Int) : Prop := LI (RFM σ n) (2 * n + 3) (AllT (2 * n + 3)) u
theorem FrA.mo {σ u : Nat → Nat → Int} (h : FrA σ u) (n : Nat) : moM u n = moM σ n := by
  funext i
  unfold moM
  rw [h.1 1 (by decide) (by decide) (by decide) (by decide), h.1 4 (by decide) (by decide) (by decide) (by decide)]
theorem fl_end {σ σ1 u : Nat → Nat → Int} {n : Nat} (h : rowsOK false σ σ1 n) (hF : FrL (up σ1 0 12 0) u) (hI : LI (rwf (up σ1 0 12 0)) (2 * n + 3) (SeenF (2 * n + 3) (2 * n + 3) (2 * n + 3) (2 * n + 3)) u) : FrA σ u ∧ LN σ n u := by
  refine ⟨⟨fun c h0 h8 h9 h10 => ?_, ?_⟩, ?_⟩
  · rw [hF.1 c h0 h9 h10, up_c h0]; exact h.1.1 c h0 h8
  · rw [hF.2 0 (by decide) (by decide) (by decide) (by decide) (by decide), up_k (by decide)]; exact h.1.2 0 (by decide)
  · refine LI_cg (f := rwf (up σ1 0 12 0)) (fun r hr c hc => ?_) (hI.mono (fun p q r hs => ⟨hs.1, hs.2.1, hs.2.2, Or.inl (by unfold AllT at hs; omega)⟩))
    rw [← rows_RF h r hr c hc]
    unfold rwf
    rw [up_c (by decide)]
theorem li_start {f : Nat → Nat → Int} {nr : Nat} {τ : Nat → Nat → Int} (h : τ 0 12 = 0) : LI f nr (SeenF nr 0 (0 + 1) (0 + 2)) τ :=
  ⟨Or.inl h, fun _ p q r hs => by unfold SeenF at hs; omega, fun h1 => by omega⟩
set_option maxHeartbeats 4000000 in
set_option maxRecDepth 20000 in
theorem c_X7_findLines (g : Gx) {q : Nat → Nat} {σ : Nat → Nat → Int} {nn : Nat} (hA : AMb σ nn) : MC g yX7_findLines cX7_findLines 4 (none) 3 100 (WM g q σ) [.ref (q 0)] (fun u => WM g q u) (pV (fun u => FrA σ u ∧ LN σ nn u)) := by
  refine MC_intro (own := RX7) rfl (by decide) (Nat.le_of_ble_eq_true rfl) (fun K C T => ?_)
  show GJ g K (WM g q σ) 0 [(0, .ref (q 0))] []
  refine g_aload_n 0 C rfl dX7_findLines_0 rfl ?_
  refine g_iconst C dX7_findLines_1 ?_
  refine g_callV C (c_X7_findRowsF g (σ := σ) hA.1 hA.2.1 hA.2.2.1 hA.2.2.2.1 hA.2.2.2.2.1 (fun i hi => (hA.2.2.2.2.2 i hi).I32 (by decide))) gv_X7_110 yd_X7_findRows ⟨by decide, by decide⟩ 0 7 (WD_get (by decide)) rfl rfl (Nat.le_of_ble_eq_true rfl) dX7_findLines_2 ?_
  intro σ1 hR1
  refine g_aload_n 0 C rfl dX7_findLines_5 rfl ?_
  refine g_iconst C dX7_findLines_6 ?_
  refine pf_X7_114 (by omega) C dX7_findLines_7 ?_
  refine g_iconst C dX7_findLines_10 ?_
  refine g_istore_n (lv' := [(0, .ref (q 0)), (1, .int (iZ 0))]) [1, 0] C dX7_findLines_11 rfl (by decide) rfl ?_
  refine fl1_X7 (σ := up σ1 0 12 0) (nr := 2 * nn + 3) ?_ (by have := hA.2.2.1; omega) ((rbf_of hA hR1).same (by funext r c; unfold rwf; rw [up_c (by decide)])) C (fun τ hF hI => ?_) (2 * nn + 4) 0 (by omega) (by omega) _ ⟨fun _ _ _ _ => rfl, fun _ _ _ _ _ _ => rfl⟩ (li_start (up_s _ _ _ _))
  · rw [up_k (by decide), hR1.2.2.2.2]; simp; try omega
  · refine g_vret (u := τ) C T dX7_findLines_76 ?_
    exact ⟨rfl, fl_end hR1 hF hI⟩
set_option maxHeartbeats 4000000 in
set_option maxRecDepth 20000 in
theorem lp_X7_isLoose {g : Gx} {K : Kx} {q : Nat → Nat} {σ : Nat → Nat → Int} {nn : Nat} (hn : σ 0 0 = (nn : Int)) (hn2 : 2 ≤ nn) (hn6 : nn ≤ 6) (hm : ∀ i, i ≤ nn → I32 (moM σ nn i)) (C : CX g K cX7_isLoose RX7 3 1 23) (T : RT g K (some .boolean) (fun _ : Unit => WM g q σ) (pI (fun z _ => z = bZ (∀ i, i < nn + 1 → moM σ nn i = 0)))) : ∀ (d i : Nat), i ≤ nn + 1 → nn + 1 < i + d → GJ g K (WM g q σ) 4 [(0, .ref (q 0)), (1, .int (iZ (bZ (∀ i', i' < i → moM σ nn i' = 0)))), (2, .int (iZ (i : Int)))] [] := by
  intro d
  induction d with
  | zero => intro i h1 h2; omega
  | succ d ih =>
    intro i k1 k2
    refine g_iload_n 2 C rfl dX7_isLoose_4 rfl ?_
    refine g_aload_n 0 C rfl dX7_isLoose_5 rfl ?_
    refine gf_X7_7 C dX7_isLoose_6 ?_
    rw [show σ 0 0 = (nn : Int) from hn]
    refine g_icmp_gt 36 C (by unfold I32; omega) (by unfold I32; omega) dX7_isLoose_9 (by decide) (fun h1 => ?_) (fun h1 => ?_)
    · refine g_iload_n 1 C rfl dX7_isLoose_36 rfl ?_
      refine g_zret (u := ()) C T dX7_isLoose_37 (bZ_or _) ?_
      refine ⟨_, rfl, ?_⟩
      obtain rfl : i = nn + 1 := by omega
      rfl
    · refine g_iload_n 1 C rfl dX7_isLoose_12 rfl ?_
      refine g_beq 28 C dX7_isLoose_13 (by decide) (fun h2 => ?_) (fun h2 => ?_)
      · refine g_iconst C dX7_isLoose_28 ?_
        refine g_istore_n (lv' := [(0, .ref (q 0)), (1, .int (iZ 0)), (2, .int (iZ (i : Int)))]) [1, 0, 2] C dX7_isLoose_29 rfl (by decide) rfl ?_
        refine g_iinc (lv' := [(0, .ref (q 0)), (1, .int (iZ 0)), (2, .int (iZ ((i : Int) + 1)))]) 2 [1, 2, 0] C rfl dX7_isLoose_30 (by decide) rfl ?_
        refine g_goto 4 C dX7_isLoose_33 (by decide) ?_
        have h9 := ih (i + 1) (by omega) (by omega)
        rw [bZ_f (fun h8 => h2 (fun i' h7 => h8 i' (by omega)))] at h9
        exact h9
      · refine g_aload_n 0 C rfl dX7_isLoose_16 rfl ?_
        refine g_iload_n 2 C rfl dX7_isLoose_17 rfl ?_
        refine g_callI C (c_X7_momentAt g (σ := σ) (nn := nn) (i := i) hn hn2 hn6 (by omega)) gv_X7_78 yd_X7_momentAt ⟨by decide, by decide⟩ 0 7 (WD_get (by decide)) rfl rfl (Nat.le_of_ble_eq_true rfl) dX7_isLoose_18 ?_
        rintro _ _ rfl
        change GJ g K _ _ _ (.int (iZ (moM σ nn i)) :: _)
        refine g_if_ne 28 C (hm i (by omega)) dX7_isLoose_21 (by decide) (fun h3 => ?_) (fun h3 => ?_)
        · refine g_iconst C dX7_isLoose_28 ?_
          refine g_istore_n (lv' := [(0, .ref (q 0)), (1, .int (iZ 0)), (2, .int (iZ (i : Int)))]) [1, 0, 2] C dX7_isLoose_29 rfl (by decide) rfl ?_
          refine g_iinc (lv' := [(0, .ref (q 0)), (1, .int (iZ 0)), (2, .int (iZ ((i : Int) + 1)))]) 2 [1, 2, 0] C rfl dX7_isLoose_30 (by decide) rfl ?_
          refine g_goto 4 C dX7_isLoose_33 (by decide) ?_
          have h9 := ih (i + 1) (by omega) (by omega)
          rw [bZ_f (fun h8 => h3 (h8 i (by omega)))] at h9
          exact h9
        · refine g_iconst C dX7_isLoose_24 ?_
          refine g_goto 29 C dX7_isLoose_25 (by decide) ?_
          refine g_istore_n (lv' := [(0, .ref (q 0)), (1, .int (iZ 1)), (2, .int (iZ (i : Int)))]) [1, 0, 2] C dX7_isLoose_29 rfl (by decide) rfl ?_
          refine g_iinc (lv' := [(0, .ref (q 0)), (1, .int (iZ 1)), (2, .int (iZ ((i : Int) + 1)))]) 2 [1, 2, 0] C rfl dX7_isLoose_30 (by decide) rfl ?_
          refine g_goto 4 C dX7_isLoose_33 (by decide) ?_
          have h9 := ih (i + 1) (by omega) (by omega)
          have hq : ∀ i', i' < i + 1 → moM σ nn i' = 0 := by
            intro i' h8
            rcases Nat.lt_or_ge i' i with h7 | h7
            · exact h2 i' h7
            · rw [show i' = i by omega]; exact h3
          rw [bZ_t hq] at h9
          exact h9
set_option maxHeartbeats 4000000 in
set_option maxRecDepth 20000 in
theorem c_X7_isLoose (g : Gx) {q : Nat → Nat} {σ : Nat → Nat → Int} {nn : Nat} (hn : σ 0 0 = (nn : Int)) (hn2 : 2 ≤ nn) (hn6 : nn ≤ 6) (hm : ∀ i, i ≤ nn → I32 (moM σ nn i)) : MC g yX7_isLoose cX7_isLoose 3 ((some .boolean)) 1 23 (WM g q σ) [.ref (q 0)] (fun _ : Unit => WM g q σ) (pI (fun z _ => z = bZ (∀ i, i < nn + 1 → moM σ nn i = 0))) := by
  refine MC_intro (own := RX7) rfl (by decide) (Nat.le_of_ble_eq_true rfl) (fun K C T => ?_)
  show GJ g K (WM g q σ) 0 [(0, .ref (q 0))] []
  refine g_iconst C dX7_isLoose_0 ?_
  refine g_istore_n (lv' := [(0, .ref (q 0)), (1, .int (iZ 1))]) [1, 0] C dX7_isLoose_1 rfl (by decide) rfl ?_
  refine g_iconst C dX7_isLoose_2 ?_
  refine g_istore_n (lv' := [(0, .ref (q 0)), (1, .int (iZ 1)), (2, .int (iZ 0))]) [1, 2, 0] C dX7_isLoose_3 rfl (by decide) rfl ?_
  have h9 := lp_X7_isLoose hn hn2 hn6 hm C T (nn + 2) 0 (by omega) (by omega)
  rw [bZ_t (fun i' h8 => absurd h8 (by omega))] at h9
  exact h9
set_option maxHeartbeats 4000000 in
set_option maxRecDepth 20000 in
theorem c_X7_stands (g : Gx) {q : Nat → Nat} {σ : Nat → Nat → Int} {nn : Nat} (hA : AMb σ nn) : MC g yX7_stands cX7_stands 1 ((some .int)) 4 123 (WM g q σ) [.ref (q 0)] (fun u => WM g q u) (pI (fun z u => FrA σ u ∧ LN σ nn u ∧ z = u 0 12)) := by
  refine MC_intro (own := RX7) rfl (by decide) (Nat.le_of_ble_eq_true rfl) (fun K C T => ?_)
  show GJ g K (WM g q σ) 0 [(0, .ref (q 0))] []
  refine g_aload_n 0 C rfl dX7_stands_0 rfl ?_
  refine g_callV C (c_X7_findLines g hA) gv_X7_141 yd_X7_findLines ⟨by decide, by decide⟩ 0 7 (WD_get (by decide)) rfl rfl (Nat.le_of_ble_eq_true rfl) dX7_stands_1 ?_
  rintro u1 ⟨hF1, hI1⟩
  refine g_aload_n 0 C rfl dX7_stands_4 rfl ?_
  refine gf_X7_114 C dX7_stands_5 ?_
  refine g_if_eq 15 C (by rcases hI1.1 with h | h <;> unfold I32 <;> omega) dX7_stands_8 (by decide) (fun h1 => ?_) (fun h1 => ?_)
  · refine g_iconst C dX7_stands_15 ?_
    refine g_iret (u := u1) C T dX7_stands_16 ?_
    exact ⟨_, rfl, hF1, hI1, by rcases hI1.1 with h | h <;> omega⟩
  · refine g_iconst C dX7_stands_11 ?_
    refine g_goto 16 C dX7_stands_12 (by decide) ?_
    refine g_iret (u := u1) C T dX7_stands_16 ?_
    exact ⟨_, rfl, hF1, hI1, by rcases hI1.1 with h | h <;> omega⟩
