def sL (e m : Nat → Int) (pa pb : Int) (i : Nat) : Int := e i * pb - m i * pa
def stA (x l u m : Nat → Int) (pa pb : Int) (i j : Nat) : Int := x j * sL l m pa pb i - x i * sL u m pa pb j
def FrLL (σ τ : Nat → Nat → Int) (a b : Nat) : Prop := (∀ c, c ≠ 11 → τ c = σ c) ∧ ∀ j, j ≠ a → j ≠ b → τ 11 j = σ 11 j
def Seen2 (n i j i' j' : Nat) : Prop := 1 ≤ i' ∧ i' < j' ∧ j' ≤ n ∧ (i' < i ∨ (i' = i ∧ j' < j))
/-- the greatest of what joint 0 and the pairs ask of the start -/
def SMx (σ : Nat → Nat → Int) (S : Nat → Nat → Prop) (τ : Nat → Nat → Int) : Prop := FrLL σ τ 3 4 ∧ (Bd (τ 11 3) 6400000000 ∧ 0 < τ 11 4 ∧ τ 11 4 ≤ 20) ∧ sL (σ 3) (σ 6) (σ 11 1) (σ 11 2) 0 * τ 11 4 ≤ τ 11 3 ∧ (∀ i j, S i j → stA (σ 2) (σ 3) (σ 4) (σ 6) (σ 11 1) (σ 11 2) i j * τ 11 4 ≤ τ 11 3 * (σ 2 j - σ 2 i)) ∧ ((τ 11 3 = sL (σ 3) (σ 6) (σ 11 1) (σ 11 2) 0 ∧ τ 11 4 = 1) ∨ ∃ i j, S i j ∧ τ 11 3 = stA (σ 2) (σ 3) (σ 4) (σ 6) (σ 11 1) (σ 11 2) i j ∧ τ 11 4 = σ 2 j - σ 2 i)
/-- the greatest of what joints 1 to below e, and the last one, ask of the slope -/
def QMx (σ : Nat → Nat → Int) (S : Nat → Prop) (τ : Nat → Nat → Int) : Prop := FrLL σ τ 5 6 ∧ (Bd (τ 11 5) 9600000000 ∧ 0 < τ 11 6 ∧ τ 11 6 ≤ 20) ∧ (∀ i, S i → (sL (σ 3) (σ 6) (σ 11 1) (σ 11 2) i * σ 11 4 - σ 11 3) * τ 11 6 ≤ τ 11 5 * σ 2 i) ∧ ∃ i, S i ∧ τ 11 5 = sL (σ 3) (σ 6) (σ 11 1) (σ 11 2) i * σ 11 4 - σ 11 3 ∧ τ 11 6 = σ 2 i
theorem sL_b {e m : Nat → Int} {pa pb : Int} {i : Nat} (he : Bd (e i) 20) (hm : Bd (m i) 40000) (ha : Bd pa 3200) (hb : 0 < pb ∧ pb ≤ 1600000) : Bd (sL e m pa pb i) 160000000 := by
  unfold sL
  exact (Bd.sub (he.mul (show Bd pb 1600000 from ⟨by omega, hb.2⟩)) (hm.mul ha)).mono (by decide)
theorem stA_b {x l u m : Nat → Int} {pa pb : Int} {i j : Nat} (hxi : 0 ≤ x i ∧ x i ≤ 20) (hxj : 0 ≤ x j ∧ x j ≤ 20) (he : Bd (l i) 20) (hu : Bd (u j) 20) (hm : Bd (m i) 40000) (hm2 : Bd (m j) 40000) (ha : Bd pa 3200) (hb : 0 < pb ∧ pb ≤ 1600000) : Bd (stA x l u m pa pb i j) 6400000000 := by
  unfold stA
  exact (Bd.sub ((show Bd (x j) 20 from ⟨by omega, hxj.2⟩).mul (sL_b he hm ha hb)) ((show Bd (x i) 20 from ⟨by omega, hxi.2⟩).mul (sL_b hu hm2 ha hb))).mono (by decide)
theorem sm_keep {σ τ : Nat → Nat → Int} {S S' : Nat → Nat → Prop} {i j : Nat} (h : SMx σ S τ) (hS : ∀ i' j', S' i' j' ↔ S i' j' ∨ (i' = i ∧ j' = j)) (hc : stA (σ 2) (σ 3) (σ 4) (σ 6) (σ 11 1) (σ 11 2) i j * τ 11 4 ≤ τ 11 3 * (σ 2 j - σ 2 i)) : SMx σ S' τ := by
  obtain ⟨h1, h2, h3, h4, h5⟩ := h
  refine ⟨h1, h2, h3, fun i' j' hs => ?_, ?_⟩
  · rcases (hS i' j').mp hs with h | ⟨rfl, rfl⟩
    · exact h4 i' j' h
    · exact hc
  · rcases h5 with h | ⟨i', j', h, h'⟩
    · exact Or.inl h
    · exact Or.inr ⟨i', j', (hS i' j').mpr (Or.inl h), h'⟩
theorem sm_new {σ τ : Nat → Nat → Int} {S S' : Nat → Nat → Prop} {i j : Nat} {A B : Int} (h : SMx σ S τ) (hS : ∀ i' j', S' i' j' ↔ S i' j' ∨ (i' = i ∧ j' = j)) (hA : A = stA (σ 2) (σ 3) (σ 4) (σ 6) (σ 11 1) (σ 11 2) i j) (hB : B = σ 2 j - σ 2 i) (bA : Bd A 6400000000) (bB : 0 < B ∧ B ≤ 20) (hpos : ∀ i' j', S i' j' → 0 < σ 2 j' - σ 2 i') (hc : τ 11 3 * B < A * τ 11 4) : SMx σ S' (up (up τ 11 3 A) 11 4 B) := by
  obtain ⟨h1, h2, h3, h4, h5⟩ := h
  have e3 : up (up τ 11 3 A) 11 4 B 11 3 = A := by rw [up_k (by decide), up_s]
  have e4 : up (up τ 11 3 A) 11 4 B 11 4 = B := up_s _ _ _ _
  refine ⟨⟨fun c hc => by rw [up_c hc, up_c hc]; exact h1.1 c hc, fun k k3 k4 => by rw [up_k k4, up_k k3]; exact h1.2 k k3 k4⟩, by rw [e3, e4]; exact ⟨bA, bB⟩, ?_, fun i' j' hs => ?_, Or.inr ⟨i, j, (hS i j).mpr (Or.inr ⟨rfl, rfl⟩), by rw [e3, e4]; exact ⟨hA, hB⟩⟩⟩
  · rw [e3, e4]
    refine Int.le_of_mul_le_mul_right (a := τ 11 4) ?_ h2.2.1
    have := Int.mul_le_mul_of_nonneg_right h3 (Int.le_of_lt bB.1)
    grind
  · rw [e3, e4]
    rcases (hS i' j').mp hs with h | ⟨rfl, rfl⟩
    · exact cr_le (a := A) (x := B) (b := τ 11 3) (y := τ 11 4) (z := σ 2 j' - σ 2 i') bB.1 h2.2.1 (hpos i' j' h) (by omega) (h4 i' j' h)
    · rw [← hA, ← hB]; exact Int.le_refl _
theorem SMx.mono {σ τ : Nat → Nat → Int} {S S' : Nat → Nat → Prop} (h : SMx σ S τ) (hS : ∀ i' j', S i' j' ↔ S' i' j') : SMx σ S' τ := by
  obtain ⟨h1, h2, h3, h4, h5⟩ := h
  refine ⟨h1, h2, h3, fun i' j' hs => h4 i' j' ((hS _ _).mpr hs), ?_⟩
  rcases h5 with h | ⟨i', j', h, h'⟩
  · exact Or.inl h
  · exact Or.inr ⟨i', j', (hS i' j').mp h, h'⟩
theorem qm_keep {σ τ : Nat → Nat → Int} {S S' : Nat → Prop} {i : Nat} (h : QMx σ S τ) (hS : ∀ i', S' i' ↔ S i' ∨ i' = i) (hc : (sL (σ 3) (σ 6) (σ 11 1) (σ 11 2) i * σ 11 4 - σ 11 3) * τ 11 6 ≤ τ 11 5 * σ 2 i) : QMx σ S' τ := by
  obtain ⟨h1, h2, h3, i', h, h'⟩ := h
  refine ⟨h1, h2, fun i' hs => ?_, i', (hS i').mpr (Or.inl h), h'⟩
  rcases (hS i').mp hs with h | rfl
  · exact h3 i' h
  · exact hc
theorem qm_new {σ τ : Nat → Nat → Int} {S S' : Nat → Prop} {i : Nat} {A B : Int} (h : QMx σ S τ) (hS : ∀ i', S' i' ↔ S i' ∨ i' = i) (hA : A = sL (σ 3) (σ 6) (σ 11 1) (σ 11 2) i * σ 11 4 - σ 11 3) (hB : B = σ 2 i) (bA : Bd A 9600000000) (bB : 0 < B ∧ B ≤ 20) (hpos : ∀ i', S i' → 0 < σ 2 i') (hc : τ 11 5 * B < A * τ 11 6) : QMx σ S' (up (up τ 11 5 A) 11 6 B) := by
  obtain ⟨h1, h2, h3, h5⟩ := h
  have e3 : up (up τ 11 5 A) 11 6 B 11 5 = A := by rw [up_k (by decide), up_s]
  have e4 : up (up τ 11 5 A) 11 6 B 11 6 = B := up_s _ _ _ _
  refine ⟨⟨fun c hc => by rw [up_c hc, up_c hc]; exact h1.1 c hc, fun k k3 k4 => by rw [up_k k4, up_k k3]; exact h1.2 k k3 k4⟩, by rw [e3, e4]; exact ⟨bA, bB⟩, fun i' hs => ?_, i, (hS i).mpr (Or.inr rfl), by rw [e3, e4]; exact ⟨hA, hB⟩⟩
  rw [e3, e4]
  rcases (hS i').mp hs with h | rfl
  · exact cr_le (a := A) (x := B) (b := τ 11 5) (y := τ 11 6) (z := σ 2 i') bB.1 h2.2.1 (hpos i' h) (by omega) (h3 i' h)
  · rw [← hA, ← hB]; exact Int.le_refl _
theorem QMx.mono {σ τ : Nat → Nat → Int} {S S' : Nat → Prop} (h : QMx σ S τ) (hS : ∀ i', S i' ↔ S' i') : QMx σ S' τ := by
  obtain ⟨h1, h2, h3, i', h, h'⟩ := h
  exact ⟨h1, h2, fun i' hs => h3 i' ((hS _).mpr hs), i', (hS i').mp h, h'⟩
set_option maxHeartbeats 4000000 in
set_option maxRecDepth 20000 in
theorem c_X3_straightLow (g : Gx) {q : Nat → Nat} {σ : Nat → Nat → Int} {nn : Nat} (hn6 : nn ≤ 6) (hl : ∀ i, i ≤ nn → Bd (σ 3 i) 20 ∧ Bd (σ 4 i) 20) (hm : ∀ i, i ≤ nn → Bd (σ 6 i) 40000) {i : Nat} (hi : i ≤ nn) : MC g yX3_straightLow cX3_straightLow 2 ((some .long)) 0 0 (WC g q σ) [.ref (q 11), .int (iZ (i : Int))] (fun _ : Unit => WC g q σ) (pL (fun z _ => z = sL (σ 3) (σ 6) (σ 11 1) (σ 11 2) i)) := by
  refine MC_intro (own := RX3) rfl (by decide) (Nat.le_of_ble_eq_true rfl) (fun K C T => ?_)
  show GJ g K (WC g q σ) 0 [(0, .ref (q 11)), (1, .int (iZ (i : Int)))] []
  refine g_aload_n 0 C rfl dX3_straightLow_0 rfl ?_
  refine gf_X3_19 C dX3_straightLow_1 ?_
  refine gf_X3_74 C dX3_straightLow_4 ?_
  refine g_iload_n 1 C rfl dX3_straightLow_7 rfl ?_
  refine g_iald C 3 i (by decide) (fun _ => rfl) (by omega) (by omega) (by decide) dX3_straightLow_8 ?_
  refine g_i2l C dX3_straightLow_9 ((hl i hi).1.I32 (by decide)) ?_
  refine g_aload_n 0 C rfl dX3_straightLow_10 rfl ?_
  refine gf_X3_7 C dX3_straightLow_11 ?_
  refine g_lmul C dX3_straightLow_14 ?_
  refine g_aload_n 0 C rfl dX3_straightLow_15 rfl ?_
  refine gf_X3_19 C dX3_straightLow_16 ?_
  refine gf_X3_67 C dX3_straightLow_19 ?_
  refine g_iload_n 1 C rfl dX3_straightLow_22 rfl ?_
  refine g_iald C 6 i (by decide) (fun _ => rfl) (by omega) (by omega) (by decide) dX3_straightLow_23 ?_
  refine g_i2l C dX3_straightLow_24 ((hm i hi).I32 (by decide)) ?_
  refine g_aload_n 0 C rfl dX3_straightLow_25 rfl ?_
  refine gf_X3_28 C dX3_straightLow_26 ?_
  refine g_lmul C dX3_straightLow_29 ?_
  refine g_lsub C dX3_straightLow_30 ?_
  refine g_lret (u := ()) C T dX3_straightLow_31 ?_
  exact ⟨_, rfl, rfl⟩
set_option maxHeartbeats 4000000 in
set_option maxRecDepth 20000 in
theorem c_X3_straightHigh (g : Gx) {q : Nat → Nat} {σ : Nat → Nat → Int} {nn : Nat} (hn6 : nn ≤ 6) (hl : ∀ i, i ≤ nn → Bd (σ 3 i) 20 ∧ Bd (σ 4 i) 20) (hm : ∀ i, i ≤ nn → Bd (σ 6 i) 40000) {i : Nat} (hi : i ≤ nn) : MC g yX3_straightHigh cX3_straightHigh 2 ((some .long)) 0 0 (WC g q σ) [.ref (q 11), .int (iZ (i : Int))] (fun _ : Unit => WC g q σ) (pL (fun z _ => z = sL (σ 4) (σ 6) (σ 11 1) (σ 11 2) i)) := by
  refine MC_intro (own := RX3) rfl (by decide) (Nat.le_of_ble_eq_true rfl) (fun K C T => ?_)
  show GJ g K (WC g q σ) 0 [(0, .ref (q 11)), (1, .int (iZ (i : Int)))] []
  refine g_aload_n 0 C rfl dX3_straightHigh_0 rfl ?_
  refine gf_X3_19 C dX3_straightHigh_1 ?_
  refine gf_X3_77 C dX3_straightHigh_4 ?_
  refine g_iload_n 1 C rfl dX3_straightHigh_7 rfl ?_
  refine g_iald C 4 i (by decide) (fun _ => rfl) (by omega) (by omega) (by decide) dX3_straightHigh_8 ?_
  refine g_i2l C dX3_straightHigh_9 ((hl i hi).2.I32 (by decide)) ?_
  refine g_aload_n 0 C rfl dX3_straightHigh_10 rfl ?_
  refine gf_X3_7 C dX3_straightHigh_11 ?_
  refine g_lmul C dX3_straightHigh_14 ?_
  refine g_aload_n 0 C rfl dX3_straightHigh_15 rfl ?_
  refine gf_X3_19 C dX3_straightHigh_16 ?_
  refine gf_X3_67 C dX3_straightHigh_19 ?_
  refine g_iload_n 1 C rfl dX3_straightHigh_22 rfl ?_
  refine g_iald C 6 i (by decide) (fun _ => rfl) (by omega) (by omega) (by decide) dX3_straightHigh_23 ?_
  refine g_i2l C dX3_straightHigh_24 ((hm i hi).I32 (by decide)) ?_
  refine g_aload_n 0 C rfl dX3_straightHigh_25 rfl ?_
  refine gf_X3_28 C dX3_straightHigh_26 ?_
  refine g_lmul C dX3_straightHigh_29 ?_
  refine g_lsub C dX3_straightHigh_30 ?_
  refine g_lret (u := ()) C T dX3_straightHigh_31 ?_
  exact ⟨_, rfl, rfl⟩
set_option maxHeartbeats 4000000 in
set_option maxRecDepth 20000 in
theorem fs2 {g : Gx} {K : Kx} {q : Nat → Nat} {σ : Nat → Nat → Int} {nn : Nat} (hn : σ 1 0 = (nn : Int)) (hn2 : 2 ≤ nn) (hn6 : nn ≤ 6) (hx : ∀ i, i ≤ nn → 0 ≤ σ 2 i ∧ σ 2 i ≤ 20) (hxi : ∀ i j, i < j → j ≤ nn → σ 2 i < σ 2 j) (hl : ∀ i, i ≤ nn → Bd (σ 3 i) 20 ∧ Bd (σ 4 i) 20) (hm : ∀ i, i ≤ nn → Bd (σ 6 i) 40000) (hpa : Bd (σ 11 1) 3200) (hpb : 0 < σ 11 2 ∧ σ 11 2 ≤ 1600000) {i : Nat} (hi1 : 1 ≤ i) (hin : i < nn) (C : CX g K cX3_findLeastStart RX3 7 1 21) (hk : ∀ τ : Nat → Nat → Int, SMx σ (Seen2 nn i (nn + 1)) τ → GJ g K (WC g q τ) 132 [(0, .ref (q 11)), (1, .int (iZ (i : Int))), (2, .int (iZ ((nn + 1 : Nat) : Int)))] []) : ∀ (d j : Nat), i < j → j ≤ nn + 1 → nn + 1 < j + d → ∀ τ : Nat → Nat → Int, SMx σ (Seen2 nn i j) τ → GJ g K (WC g q τ) 31 [(0, .ref (q 11)), (1, .int (iZ (i : Int))), (2, .int (iZ (j : Int)))] [] := by
  intro d
  induction d with
  | zero => intro j k0 k1 k2; omega
  | succ d ih =>
    intro j k0 k1 k2 τ hI
    refine g_iload_n 2 C rfl dX3_findLeastStart_31 rfl ?_
    refine g_aload_n 0 C rfl dX3_findLeastStart_32 rfl ?_
    refine gf_X3_19 C dX3_findLeastStart_33 ?_
    refine gf_X3_47 C dX3_findLeastStart_36 ?_
    rw [show τ 1 0 = (nn : Int) from ((congrFun (hI.1.1 1 (by decide)) 0).trans hn)]
    refine g_icmp_gt 132 C (by unfold I32; omega) (by unfold I32; omega) dX3_findLeastStart_39 (by decide) (fun h1 => ?_) (fun h1 => ?_)
    · obtain rfl : j = nn + 1 := by omega
      exact hk τ hI
    · refine g_aload_n 0 C rfl dX3_findLeastStart_42 rfl ?_
      refine gf_X3_19 C dX3_findLeastStart_43 ?_
      refine gf_X3_53 C dX3_findLeastStart_46 ?_
      refine g_iload_n 2 C rfl dX3_findLeastStart_49 rfl ?_
      refine g_iald C 2 j (by decide) (fun _ => rfl) (by omega) (by omega) (by decide) dX3_findLeastStart_50 ?_
      rw [show τ 2 j = σ 2 j from congrFun (hI.1.1 2 (by decide)) _]
      refine g_i2l C dX3_findLeastStart_51 (by have h9 := hx j (by omega); unfold I32; omega) ?_
      refine g_aload_n 0 C rfl dX3_findLeastStart_52 rfl ?_
      refine g_iload_n 1 C rfl dX3_findLeastStart_53 rfl ?_
      refine g_callL C (c_X3_straightLow g (σ := τ) hn6 (by rw [hI.1.1 3 (by decide), hI.1.1 4 (by decide)]; exact hl) (by rw [hI.1.1 6 (by decide)]; exact hm) (i := i) (by omega)) gv_X3_40 yd_X3_straightLow ⟨by decide, by decide⟩ 11 3 (WD_get (by decide)) rfl rfl (Nat.le_of_ble_eq_true rfl) dX3_findLeastStart_54 ?_
      rintro _ _ rfl
      rw [show sL (τ 3) (τ 6) (τ 11 1) (τ 11 2) i = sL (σ 3) (σ 6) (σ 11 1) (σ 11 2) i by rw [hI.1.1 3 (by decide), hI.1.1 6 (by decide), hI.1.2 1 (by decide) (by decide), hI.1.2 2 (by decide) (by decide)]]
      refine g_lmul C dX3_findLeastStart_57 ?_
      refine g_aload_n 0 C rfl dX3_findLeastStart_58 rfl ?_
      refine gf_X3_19 C dX3_findLeastStart_59 ?_
      refine gf_X3_53 C dX3_findLeastStart_62 ?_
      refine g_iload_n 1 C rfl dX3_findLeastStart_65 rfl ?_
      refine g_iald C 2 i (by decide) (fun _ => rfl) (by omega) (by omega) (by decide) dX3_findLeastStart_66 ?_
      rw [show τ 2 i = σ 2 i from congrFun (hI.1.1 2 (by decide)) _]
      refine g_i2l C dX3_findLeastStart_67 (by have h9 := hx i (by omega); unfold I32; omega) ?_
      refine g_aload_n 0 C rfl dX3_findLeastStart_68 rfl ?_
      refine g_iload_n 2 C rfl dX3_findLeastStart_69 rfl ?_
      refine g_callL C (c_X3_straightHigh g (σ := τ) hn6 (by rw [hI.1.1 3 (by decide), hI.1.1 4 (by decide)]; exact hl) (by rw [hI.1.1 6 (by decide)]; exact hm) (i := j) (by omega)) gv_X3_57 yd_X3_straightHigh ⟨by decide, by decide⟩ 11 3 (WD_get (by decide)) rfl rfl (Nat.le_of_ble_eq_true rfl) dX3_findLeastStart_70 ?_
      rintro _ _ rfl
      rw [show sL (τ 4) (τ 6) (τ 11 1) (τ 11 2) j = sL (σ 4) (σ 6) (σ 11 1) (σ 11 2) j by rw [hI.1.1 4 (by decide), hI.1.1 6 (by decide), hI.1.2 1 (by decide) (by decide), hI.1.2 2 (by decide) (by decide)]]
      refine g_lmul C dX3_findLeastStart_73 ?_
      refine g_lsub C dX3_findLeastStart_74 ?_
      refine g_lname (fun w2 ew2 => ?_)
      refine g_lstore_n (lv' := [(0, .ref (q 11)), (1, .int (iZ (i : Int))), (2, .int (iZ (j : Int))), (3, .long (lZ w2))]) [1, 2, 3, 0] C dX3_findLeastStart_75 rfl (by decide) rfl ?_
      refine g_aload_n 0 C rfl dX3_findLeastStart_76 rfl ?_
      refine gf_X3_19 C dX3_findLeastStart_77 ?_
      refine gf_X3_53 C dX3_findLeastStart_80 ?_
      refine g_iload_n 2 C rfl dX3_findLeastStart_83 rfl ?_
      refine g_iald C 2 j (by decide) (fun _ => rfl) (by omega) (by omega) (by decide) dX3_findLeastStart_84 ?_
      rw [show τ 2 j = σ 2 j from congrFun (hI.1.1 2 (by decide)) _]
      refine g_aload_n 0 C rfl dX3_findLeastStart_85 rfl ?_
      refine gf_X3_19 C dX3_findLeastStart_86 ?_
      refine gf_X3_53 C dX3_findLeastStart_89 ?_
      refine g_iload_n 1 C rfl dX3_findLeastStart_92 rfl ?_
      refine g_iald C 2 i (by decide) (fun _ => rfl) (by omega) (by omega) (by decide) dX3_findLeastStart_93 ?_
      rw [show τ 2 i = σ 2 i from congrFun (hI.1.1 2 (by decide)) _]
      refine g_isub C dX3_findLeastStart_94 ?_
      refine g_i2l C dX3_findLeastStart_95 (by have h9 := hx i (by omega); have h8 := hx j (by omega); unfold I32; omega) ?_
      refine g_lname (fun w3 ew3 => ?_)
      refine g_lstore (lv' := [(0, .ref (q 11)), (1, .int (iZ (i : Int))), (2, .int (iZ (j : Int))), (3, .long (lZ w2)), (5, .long (lZ w3))]) [1, 2, 3, 4, 0] C dX3_findLeastStart_96 (by decide) rfl ?_
      have eA : w2 = stA (σ 2) (σ 3) (σ 4) (σ 6) (σ 11 1) (σ 11 2) i j := ew2
      have eB : w3 = σ 2 j - σ 2 i := ew3
      have bA : Bd w2 6400000000 := by rw [eA]; exact stA_b (hx i (by omega)) (hx j (by omega)) (hl i (by omega)).1 (hl j (by omega)).2 (hm i (by omega)) (hm j (by omega)) hpa hpb
      obtain ⟨q1, q2⟩ := bA
      have bA := And.intro q1 q2
      have q3 := hxi i j k0 (by omega)
      have q4 := hx i (by omega)
      have q5 := hx j (by omega)
      obtain ⟨⟨q6, q7⟩, q8, q9⟩ := hI.2.1
      refine g_lload_n 3 C rfl dX3_findLeastStart_98 rfl ?_
      refine g_aload_n 0 C rfl dX3_findLeastStart_99 rfl ?_
      refine gf_X3_13 C dX3_findLeastStart_100 ?_
      refine g_lmul C dX3_findLeastStart_103 ?_
      refine g_aload_n 0 C rfl dX3_findLeastStart_104 rfl ?_
      refine gf_X3_44 C dX3_findLeastStart_105 ?_
      refine g_lload 4 C rfl dX3_findLeastStart_108 ?_
      refine g_lmul C dX3_findLeastStart_110 ?_
      refine g_lcmp_le 126 C ((Bd.mul (A := 6400000000) (B := 20) ⟨by omega, by omega⟩ ⟨by omega, by omega⟩).I (by decide)) ((Bd.mul (A := 6400000000) (B := 20) ⟨by omega, by omega⟩ ⟨by omega, by omega⟩).I (by decide)) dX3_findLeastStart_111 dX3_findLeastStart_112 (by decide) (fun h4 => ?_) (fun h4 => ?_)
      · refine g_iinc (lv' := [(0, .ref (q 11)), (1, .int (iZ (i : Int))), (2, .int (iZ ((j : Int) + 1))), (3, .long (lZ w2)), (5, .long (lZ w3))]) 2 [1, 2, 0, 3, 4] C rfl dX3_findLeastStart_126 (by decide) rfl ?_
        refine g_goto 31 C dX3_findLeastStart_129 (by decide) ?_
        refine g_lv [0, 1, 2] rfl ?_
        refine ih (j + 1) (by omega) (by omega) (by omega) τ (sm_keep (i := i) (j := j) hI (fun i' j' => by unfold Seen2; omega) ?_)
        rw [← eA, ← eB]
        omega
      · refine g_aload_n 0 C rfl dX3_findLeastStart_115 rfl ?_
        refine g_lload_n 3 C rfl dX3_findLeastStart_116 rfl ?_
        refine pf_X3_44 C dX3_findLeastStart_117 ?_
        refine g_aload_n 0 C rfl dX3_findLeastStart_120 rfl ?_
        refine g_lload 4 C rfl dX3_findLeastStart_121 ?_
        refine pf_X3_13 C dX3_findLeastStart_123 ?_
        refine g_iinc (lv' := [(0, .ref (q 11)), (1, .int (iZ (i : Int))), (2, .int (iZ ((j : Int) + 1))), (3, .long (lZ w2)), (5, .long (lZ w3))]) 2 [1, 2, 0, 3, 4] C rfl dX3_findLeastStart_126 (by decide) rfl ?_
        refine g_goto 31 C dX3_findLeastStart_129 (by decide) ?_
        refine g_lv [0, 1, 2] rfl ?_
        exact ih (j + 1) (by omega) (by omega) (by omega) _ (sm_new (i := i) (j := j) hI (fun i' j' => by unfold Seen2; omega) eA eB bA ⟨by omega, by omega⟩ (fun i' j' hs => by have := hxi i' j' hs.2.1 hs.2.2.1; omega) (by omega))
set_option maxHeartbeats 4000000 in
set_option maxRecDepth 20000 in
theorem fs1 {g : Gx} {K : Kx} {q : Nat → Nat} {σ : Nat → Nat → Int} {nn : Nat} (hn : σ 1 0 = (nn : Int)) (hn2 : 2 ≤ nn) (hn6 : nn ≤ 6) (hx : ∀ i, i ≤ nn → 0 ≤ σ 2 i ∧ σ 2 i ≤ 20) (hxi : ∀ i j, i < j → j ≤ nn → σ 2 i < σ 2 j) (hl : ∀ i, i ≤ nn → Bd (σ 3 i) 20 ∧ Bd (σ 4 i) 20) (hm : ∀ i, i ≤ nn → Bd (σ 6 i) 40000) (hpa : Bd (σ 11 1) 3200) (hpb : 0 < σ 11 2 ∧ σ 11 2 ≤ 1600000) (C : CX g K cX3_findLeastStart RX3 7 1 21) (T : RT g K none (fun u => WC g q u) (pV (fun u => SMx σ (fun i j => 1 ≤ i ∧ i < j ∧ j ≤ nn) u))) : ∀ (d i : Nat), 1 ≤ i → i ≤ nn → nn < i + d → ∀ τ : Nat → Nat → Int, SMx σ (Seen2 nn i (i + 1)) τ → GJ g K (WC g q τ) 16 [(0, .ref (q 11)), (1, .int (iZ (i : Int)))] [] := by
  intro d
  induction d with
  | zero => intro i k0 k1 k2; omega
  | succ d ih =>
    intro i k0 k1 k2 τ hI
    refine g_iload_n 1 C rfl dX3_findLeastStart_16 rfl ?_
    refine g_aload_n 0 C rfl dX3_findLeastStart_17 rfl ?_
    refine gf_X3_19 C dX3_findLeastStart_18 ?_
    refine gf_X3_47 C dX3_findLeastStart_21 ?_
    rw [show τ 1 0 = (nn : Int) from ((congrFun (hI.1.1 1 (by decide)) 0).trans hn)]
    refine g_icmp_ge 138 C (by unfold I32; omega) (by unfold I32; omega) dX3_findLeastStart_24 (by decide) (fun h1 => ?_) (fun h1 => ?_)
    · refine g_vret (u := τ) C T dX3_findLeastStart_138 ?_
      exact ⟨rfl, hI.mono (fun i' j' => by unfold Seen2; omega)⟩
    · refine g_iload_n 1 C rfl dX3_findLeastStart_27 rfl ?_
      refine g_iconst C dX3_findLeastStart_28 ?_
      refine g_iadd C dX3_findLeastStart_29 ?_
      refine g_iname (fun w2 ew2 => ?_)
      refine g_istore_n (lv' := [(0, .ref (q 11)), (1, .int (iZ (i : Int))), (2, .int (iZ w2))]) [1, 2, 0] C dX3_findLeastStart_30 rfl (by decide) rfl ?_
      subst ew2
      refine fs2 hn hn2 hn6 hx hxi hl hm hpa hpb k0 (by omega) C (fun τ2 hI2 => ?_) nn (i + 1) (by omega) (by omega) (by omega) τ hI
      refine g_iinc (lv' := [(0, .ref (q 11)), (1, .int (iZ ((i : Int) + 1))), (2, .int (iZ ((nn + 1 : Nat) : Int)))]) 1 [1, 0, 2] C rfl dX3_findLeastStart_132 (by decide) rfl ?_
      refine g_goto 16 C dX3_findLeastStart_135 (by decide) ?_
      refine g_lv [0, 1] rfl ?_
      exact ih (i + 1) (by omega) (by omega) (by omega) τ2 (hI2.mono (fun i' j' => by unfold Seen2; omega))
theorem sm_start {σ : Nat → Nat → Int} {nn : Nat} (hl : ∀ i, i ≤ nn → Bd (σ 3 i) 20 ∧ Bd (σ 4 i) 20) (hm : ∀ i, i ≤ nn → Bd (σ 6 i) 40000) (hpa : Bd (σ 11 1) 3200) (hpb : 0 < σ 11 2 ∧ σ 11 2 ≤ 1600000) : SMx σ (Seen2 nn 1 (1 + 1)) (up (up σ 11 3 (sL (σ 3) (σ 6) (σ 11 1) (σ 11 2) 0)) 11 4 1) := by
  have e3 : up (up σ 11 3 (sL (σ 3) (σ 6) (σ 11 1) (σ 11 2) 0)) 11 4 1 11 3 = sL (σ 3) (σ 6) (σ 11 1) (σ 11 2) 0 := by rw [up_k (by decide), up_s]
  have e4 : up (up σ 11 3 (sL (σ 3) (σ 6) (σ 11 1) (σ 11 2) 0)) 11 4 1 11 4 = 1 := up_s _ _ _ _
  refine ⟨⟨fun c hc => by rw [up_c hc, up_c hc], fun k k3 k4 => by rw [up_k k4, up_k k3]⟩, by rw [e3, e4]; exact ⟨(sL_b (hl 0 (Nat.zero_le _)).1 (hm 0 (Nat.zero_le _)) hpa hpb).mono (by decide), by decide, by decide⟩, by rw [e3, e4, Int.mul_one]; exact Int.le_refl _, fun i' j' hs => by unfold Seen2 at hs; omega, Or.inl ⟨e3, e4⟩⟩
set_option maxHeartbeats 4000000 in
set_option maxRecDepth 20000 in
theorem c_X3_findLeastStart (g : Gx) {q : Nat → Nat} {σ : Nat → Nat → Int} {nn : Nat} (hn : σ 1 0 = (nn : Int)) (hn2 : 2 ≤ nn) (hn6 : nn ≤ 6) (hx : ∀ i, i ≤ nn → 0 ≤ σ 2 i ∧ σ 2 i ≤ 20) (hxi : ∀ i j, i < j → j ≤ nn → σ 2 i < σ 2 j) (hl : ∀ i, i ≤ nn → Bd (σ 3 i) 20 ∧ Bd (σ 4 i) 20) (hm : ∀ i, i ≤ nn → Bd (σ 6 i) 40000) (hpa : Bd (σ 11 1) 3200) (hpb : 0 < σ 11 2 ∧ σ 11 2 ≤ 1600000) : MC g yX3_findLeastStart cX3_findLeastStart 7 (none) 1 21 (WC g q σ) [.ref (q 11)] (fun u => WC g q u) (pV (fun u => SMx σ (fun i j => 1 ≤ i ∧ i < j ∧ j ≤ nn) u)) := by
  refine MC_intro (own := RX3) rfl (by decide) (Nat.le_of_ble_eq_true rfl) (fun K C T => ?_)
  show GJ g K (WC g q σ) 0 [(0, .ref (q 11))] []
  refine g_aload_n 0 C rfl dX3_findLeastStart_0 rfl ?_
  refine g_aload_n 0 C rfl dX3_findLeastStart_1 rfl ?_
  refine g_iconst C dX3_findLeastStart_2 ?_
  refine g_callL C (c_X3_straightLow g (σ := σ) hn6 hl hm (i := 0) (by omega)) gv_X3_40 yd_X3_straightLow ⟨by decide, by decide⟩ 11 3 (WD_get (by decide)) rfl rfl (Nat.le_of_ble_eq_true rfl) dX3_findLeastStart_3 ?_
  rintro _ _ rfl
  refine pf_X3_44 C dX3_findLeastStart_6 ?_
  refine g_aload_n 0 C rfl dX3_findLeastStart_9 rfl ?_
  refine g_lconst 1 C dX3_findLeastStart_10 (by decide) ?_
  refine pf_X3_13 C dX3_findLeastStart_11 ?_
  refine g_iconst C dX3_findLeastStart_14 ?_
  refine g_istore_n (lv' := [(0, .ref (q 11)), (1, .int (iZ 1))]) [1, 0] C dX3_findLeastStart_15 rfl (by decide) rfl ?_
  exact fs1 hn hn2 hn6 hx hxi hl hm hpa hpb C T nn 1 (by omega) (by omega) (by omega) _ (sm_start hl hm hpa hpb)
set_option maxHeartbeats 4000000 in
set_option maxRecDepth 20000 in
theorem fq1 {g : Gx} {K : Kx} {q : Nat → Nat} {σ : Nat → Nat → Int} {nn : Nat} (hn : σ 1 0 = (nn : Int)) (hn2 : 2 ≤ nn) (hn6 : nn ≤ 6) (hx : ∀ i, i ≤ nn → 0 ≤ σ 2 i ∧ σ 2 i ≤ 20) (hxi : ∀ i j, i < j → j ≤ nn → σ 2 i < σ 2 j) (hl : ∀ i, i ≤ nn → Bd (σ 3 i) 20 ∧ Bd (σ 4 i) 20) (hm : ∀ i, i ≤ nn → Bd (σ 6 i) 40000) (hpa : Bd (σ 11 1) 3200) (hpb : 0 < σ 11 2 ∧ σ 11 2 ≤ 1600000) (hsa : Bd (σ 11 3) 6400000000) (hsb : 0 < σ 11 4 ∧ σ 11 4 ≤ 20) (hx0 : 0 ≤ σ 2 0) (C : CX g K cX3_findLeastSlope RX3 6 1 21) (T : RT g K none (fun u => WC g q u) (pV (fun u => QMx σ (fun i => 1 ≤ i ∧ i ≤ nn) u))) : ∀ (d i : Nat), 1 ≤ i → i ≤ nn → nn < i + d → ∀ τ : Nat → Nat → Int, QMx σ (fun i' => (1 ≤ i' ∧ i' < i) ∨ i' = nn) τ → GJ g K (WC g q τ) 39 [(0, .ref (q 11)), (1, .int (iZ (i : Int)))] [] := by
  intro d
  induction d with
  | zero => intro i k0 k1 k2; omega
  | succ d ih =>
    intro i k0 k1 k2 τ hI
    refine g_iload_n 1 C rfl dX3_findLeastSlope_39 rfl ?_
    refine g_aload_n 0 C rfl dX3_findLeastSlope_40 rfl ?_
    refine gf_X3_19 C dX3_findLeastSlope_41 ?_
    refine gf_X3_47 C dX3_findLeastSlope_44 ?_
    rw [show τ 1 0 = (nn : Int) from ((congrFun (hI.1.1 1 (by decide)) 0).trans hn)]
    refine g_icmp_ge 112 C (by unfold I32; omega) (by unfold I32; omega) dX3_findLeastSlope_47 (by decide) (fun h1 => ?_) (fun h1 => ?_)
    · refine g_vret (u := τ) C T dX3_findLeastSlope_112 ?_
      exact ⟨rfl, hI.mono (fun i' => by omega)⟩
    · refine g_aload_n 0 C rfl dX3_findLeastSlope_50 rfl ?_
      refine g_iload_n 1 C rfl dX3_findLeastSlope_51 rfl ?_
      refine g_callL C (c_X3_straightLow g (σ := τ) hn6 (by rw [hI.1.1 3 (by decide), hI.1.1 4 (by decide)]; exact hl) (by rw [hI.1.1 6 (by decide)]; exact hm) (i := i) (by omega)) gv_X3_40 yd_X3_straightLow ⟨by decide, by decide⟩ 11 3 (WD_get (by decide)) rfl rfl (Nat.le_of_ble_eq_true rfl) dX3_findLeastSlope_52 ?_
      rintro _ _ rfl
      rw [show sL (τ 3) (τ 6) (τ 11 1) (τ 11 2) i = sL (σ 3) (σ 6) (σ 11 1) (σ 11 2) i by rw [hI.1.1 3 (by decide), hI.1.1 6 (by decide), hI.1.2 1 (by decide) (by decide), hI.1.2 2 (by decide) (by decide)]]
      refine g_aload_n 0 C rfl dX3_findLeastSlope_55 rfl ?_
      refine gf_X3_13 C dX3_findLeastSlope_56 ?_
      rw [show τ 11 4 = σ 11 4 from (hI.1.2 4 (by decide) (by decide))]
      refine g_lmul C dX3_findLeastSlope_59 ?_
      refine g_aload_n 0 C rfl dX3_findLeastSlope_60 rfl ?_
      refine gf_X3_44 C dX3_findLeastSlope_61 ?_
      rw [show τ 11 3 = σ 11 3 from (hI.1.2 3 (by decide) (by decide))]
      refine g_lsub C dX3_findLeastSlope_64 ?_
      refine g_lname (fun w2 ew2 => ?_)
      refine g_lstore_n (lv' := [(0, .ref (q 11)), (1, .int (iZ (i : Int))), (2, .long (lZ w2))]) [1, 2, 0] C dX3_findLeastSlope_65 rfl (by decide) rfl ?_
      refine g_aload_n 0 C rfl dX3_findLeastSlope_66 rfl ?_
      refine gf_X3_19 C dX3_findLeastSlope_67 ?_
      refine gf_X3_53 C dX3_findLeastSlope_70 ?_
      refine g_iload_n 1 C rfl dX3_findLeastSlope_73 rfl ?_
      refine g_iald C 2 i (by decide) (fun _ => rfl) (by omega) (by omega) (by decide) dX3_findLeastSlope_74 ?_
      rw [show τ 2 i = σ 2 i from congrFun (hI.1.1 2 (by decide)) _]
      refine g_i2l C dX3_findLeastSlope_75 (by have h9 := hx i (by omega); unfold I32; omega) ?_
      refine g_lname (fun w3 ew3 => ?_)
      refine g_lstore (lv' := [(0, .ref (q 11)), (1, .int (iZ (i : Int))), (2, .long (lZ w2)), (4, .long (lZ w3))]) [1, 2, 3, 0] C dX3_findLeastSlope_76 (by decide) rfl ?_
      have eA : w2 = sL (σ 3) (σ 6) (σ 11 1) (σ 11 2) i * σ 11 4 - σ 11 3 := ew2
      have eB : w3 = σ 2 i := ew3
      have bA : Bd w2 9600000000 := by rw [eA]; exact (Bd.sub (Bd.mul (sL_b (hl i (by omega)).1 (hm i (by omega)) hpa hpb) (show Bd (σ 11 4) 20 from ⟨by omega, hsb.2⟩)) hsa).mono (by decide)
      obtain ⟨q1, q2⟩ := bA
      have bA := And.intro q1 q2
      have q3 := hxi 0 i (by omega) (by omega)
      have q4 := hx i (by omega)
      obtain ⟨⟨q6, q7⟩, q8, q9⟩ := hI.2.1
      refine g_lload_n 2 C rfl dX3_findLeastSlope_78 rfl ?_
      refine g_aload_n 0 C rfl dX3_findLeastSlope_79 rfl ?_
      refine gf_X3_16 C dX3_findLeastSlope_80 ?_
      refine g_lmul C dX3_findLeastSlope_83 ?_
      refine g_aload_n 0 C rfl dX3_findLeastSlope_84 rfl ?_
      refine gf_X3_60 C dX3_findLeastSlope_85 ?_
      refine g_lload 3 C rfl dX3_findLeastSlope_88 ?_
      refine g_lmul C dX3_findLeastSlope_90 ?_
      refine g_lcmp_le 106 C ((Bd.mul (A := 9600000000) (B := 20) ⟨by omega, by omega⟩ ⟨by omega, by omega⟩).I (by decide)) ((Bd.mul (A := 9600000000) (B := 20) ⟨by omega, by omega⟩ ⟨by omega, by omega⟩).I (by decide)) dX3_findLeastSlope_91 dX3_findLeastSlope_92 (by decide) (fun h4 => ?_) (fun h4 => ?_)
      · refine g_iinc (lv' := [(0, .ref (q 11)), (1, .int (iZ ((i : Int) + 1))), (2, .long (lZ w2)), (4, .long (lZ w3))]) 1 [1, 0, 2, 3] C rfl dX3_findLeastSlope_106 (by decide) rfl ?_
        refine g_goto 39 C dX3_findLeastSlope_109 (by decide) ?_
        refine g_lv [0, 1] rfl ?_
        refine ih (i + 1) (by omega) (by omega) (by omega) τ (qm_keep (i := i) hI (fun i' => by omega) ?_)
        rw [← eA, ← eB]
        omega
      · refine g_aload_n 0 C rfl dX3_findLeastSlope_95 rfl ?_
        refine g_lload_n 2 C rfl dX3_findLeastSlope_96 rfl ?_
        refine pf_X3_60 C dX3_findLeastSlope_97 ?_
        refine g_aload_n 0 C rfl dX3_findLeastSlope_100 rfl ?_
        refine g_lload 3 C rfl dX3_findLeastSlope_101 ?_
        refine pf_X3_16 C dX3_findLeastSlope_103 ?_
        refine g_iinc (lv' := [(0, .ref (q 11)), (1, .int (iZ ((i : Int) + 1))), (2, .long (lZ w2)), (4, .long (lZ w3))]) 1 [1, 0, 2, 3] C rfl dX3_findLeastSlope_106 (by decide) rfl ?_
        refine g_goto 39 C dX3_findLeastSlope_109 (by decide) ?_
        refine g_lv [0, 1] rfl ?_
        exact ih (i + 1) (by omega) (by omega) (by omega) _ (qm_new (i := i) hI (fun i' => by omega) eA eB bA ⟨by omega, by omega⟩ (fun i' hs => by have := hxi 0 i' (by omega) (by omega); omega) (by omega))
theorem qm_start {σ : Nat → Nat → Int} {nn : Nat} (hn2 : 2 ≤ nn) (hx : ∀ i, i ≤ nn → 0 ≤ σ 2 i ∧ σ 2 i ≤ 20) (hxp : 0 < σ 2 nn) (hl : ∀ i, i ≤ nn → Bd (σ 3 i) 20 ∧ Bd (σ 4 i) 20) (hm : ∀ i, i ≤ nn → Bd (σ 6 i) 40000) (hpa : Bd (σ 11 1) 3200) (hpb : 0 < σ 11 2 ∧ σ 11 2 ≤ 1600000) (hsa : Bd (σ 11 3) 6400000000) (hsb : 0 < σ 11 4 ∧ σ 11 4 ≤ 20) : QMx σ (fun i' => (1 ≤ i' ∧ i' < 1) ∨ i' = nn) (up (up σ 11 5 (sL (σ 3) (σ 6) (σ 11 1) (σ 11 2) nn * σ 11 4 - σ 11 3)) 11 6 (σ 2 nn)) := by
  have e3 : up (up σ 11 5 (sL (σ 3) (σ 6) (σ 11 1) (σ 11 2) nn * σ 11 4 - σ 11 3)) 11 6 (σ 2 nn) 11 5 = sL (σ 3) (σ 6) (σ 11 1) (σ 11 2) nn * σ 11 4 - σ 11 3 := by rw [up_k (by decide), up_s]
  have e4 : up (up σ 11 5 (sL (σ 3) (σ 6) (σ 11 1) (σ 11 2) nn * σ 11 4 - σ 11 3)) 11 6 (σ 2 nn) 11 6 = σ 2 nn := up_s _ _ _ _
  refine ⟨⟨fun c hc => by rw [up_c hc, up_c hc], fun k k3 k4 => by rw [up_k k4, up_k k3]⟩, by rw [e3, e4]; exact ⟨(Bd.sub (Bd.mul (sL_b (hl nn (Nat.le_refl _)).1 (hm nn (Nat.le_refl _)) hpa hpb) (show Bd (σ 11 4) 20 from ⟨by omega, hsb.2⟩)) hsa).mono (by decide), hxp, (hx nn (Nat.le_refl _)).2⟩, fun i' hs => ?_, nn, Or.inr rfl, e3, e4⟩
  obtain rfl : i' = nn := by omega
  rw [e3, e4]
  exact Int.le_refl _
set_option maxHeartbeats 4000000 in
set_option maxRecDepth 20000 in
theorem c_X3_findLeastSlope (g : Gx) {q : Nat → Nat} {σ : Nat → Nat → Int} {nn : Nat} (hn : σ 1 0 = (nn : Int)) (hn2 : 2 ≤ nn) (hn6 : nn ≤ 6) (hx : ∀ i, i ≤ nn → 0 ≤ σ 2 i ∧ σ 2 i ≤ 20) (hxi : ∀ i j, i < j → j ≤ nn → σ 2 i < σ 2 j) (hl : ∀ i, i ≤ nn → Bd (σ 3 i) 20 ∧ Bd (σ 4 i) 20) (hm : ∀ i, i ≤ nn → Bd (σ 6 i) 40000) (hpa : Bd (σ 11 1) 3200) (hpb : 0 < σ 11 2 ∧ σ 11 2 ≤ 1600000) (hsa : Bd (σ 11 3) 6400000000) (hsb : 0 < σ 11 4 ∧ σ 11 4 ≤ 20) : MC g yX3_findLeastSlope cX3_findLeastSlope 6 (none) 1 21 (WC g q σ) [.ref (q 11)] (fun u => WC g q u) (pV (fun u => QMx σ (fun i => 1 ≤ i ∧ i ≤ nn) u)) := by
  refine MC_intro (own := RX3) rfl (by decide) (Nat.le_of_ble_eq_true rfl) (fun K C T => ?_)
  show GJ g K (WC g q σ) 0 [(0, .ref (q 11))] []
  refine g_aload_n 0 C rfl dX3_findLeastSlope_0 rfl ?_
  refine g_aload_n 0 C rfl dX3_findLeastSlope_1 rfl ?_
  refine g_aload_n 0 C rfl dX3_findLeastSlope_2 rfl ?_
  refine gf_X3_19 C dX3_findLeastSlope_3 ?_
  refine gf_X3_47 C dX3_findLeastSlope_6 ?_
  rw [show σ 1 0 = (nn : Int) from hn]
  refine g_callL C (c_X3_straightLow g (σ := σ) hn6 hl hm (i := nn) (by omega)) gv_X3_40 yd_X3_straightLow ⟨by decide, by decide⟩ 11 3 (WD_get (by decide)) rfl rfl (Nat.le_of_ble_eq_true rfl) dX3_findLeastSlope_9 ?_
  rintro _ _ rfl
  refine g_aload_n 0 C rfl dX3_findLeastSlope_12 rfl ?_
  refine gf_X3_13 C dX3_findLeastSlope_13 ?_
  refine g_lmul C dX3_findLeastSlope_16 ?_
  refine g_aload_n 0 C rfl dX3_findLeastSlope_17 rfl ?_
  refine gf_X3_44 C dX3_findLeastSlope_18 ?_
  refine g_lsub C dX3_findLeastSlope_21 ?_
  refine pf_X3_60 C dX3_findLeastSlope_22 ?_
  refine g_aload_n 0 C rfl dX3_findLeastSlope_25 rfl ?_
  refine g_aload_n 0 C rfl dX3_findLeastSlope_26 rfl ?_
  refine gf_X3_19 C dX3_findLeastSlope_27 ?_
  refine g_callI C (c_X0_span g (σ := up σ 11 5 (sL (σ 3) (σ 6) (σ 11 1) (σ 11 2) nn * σ 11 4 - σ 11 3)) (by rw [up_c (by decide)]; exact hn) hn2 hn6) gv_X3_63 yd_X0_span ⟨by decide, by decide⟩ 1 0 (WD_get (by decide)) rfl rfl (Nat.le_of_ble_eq_true rfl) dX3_findLeastSlope_30 ?_
  rintro _ _ rfl
  rw [up_c (show (2 : Nat) ≠ 11 by decide)]
  refine g_i2l C dX3_findLeastSlope_33 (by have h9 := hx nn (by omega); unfold I32; omega) ?_
  refine pf_X3_16 C dX3_findLeastSlope_34 ?_
  refine g_iconst C dX3_findLeastSlope_37 ?_
  refine g_istore_n (lv' := [(0, .ref (q 11)), (1, .int (iZ 1))]) [1, 0] C dX3_findLeastSlope_38 rfl (by decide) rfl ?_
  exact fq1 hn hn2 hn6 hx hxi hl hm hpa hpb hsa hsb (hx 0 (by omega)).1 C T nn 1 (by omega) (by omega) (by omega) _ (qm_start hn2 hx (by have := hxi 0 nn (by omega) (by omega); have := (hx 0 (by omega)).1; omega) hl hm hpa hpb hsa hsb)
