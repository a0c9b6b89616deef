def ent (x l u m : Nat → Int) (τ : Nat → Nat → Int) (e i j r : Nat) : Prop := τ 8 e = rs x l u i j r + rs x u l i j r ∧ τ 9 e = rs x u l i j r - rs x l u i j r ∧ τ 10 e = rs x m m i j r
def SeenG (n i j r i' j' r' : Nat) : Prop := i' < j' ∧ j' < r' ∧ r' ≤ n ∧ (i' < i ∨ (i' = i ∧ (j' < j ∨ (j' = j ∧ r' < r))))
def cb3 (m : Nat) : Nat := m * (m - 1) * (m - 2) / 6
def cb2 (m : Nat) : Nat := m * (m - 1) / 2
/-- how many triples come ahead of this one -/
def rk (n i j r : Nat) : Nat := (cb3 (n + 1) - cb3 (n + 1 - i)) + (cb2 (n - i) - cb2 (n + 1 - j)) + (r - j - 1)
theorem rk_1 : ∀ n, n < 7 → 2 ≤ n → rk n 0 1 2 = 0 := by decide +kernel
theorem rk_2 {n i j r : Nat} (h : j < r) : rk n i j (r + 1) = rk n i j r + 1 := by unfold rk; omega
theorem rk_3 : ∀ n, n < 7 → ∀ i, i < 7 → ∀ j, j < 7 → i < j → j < n → rk n i j (n + 1) = rk n i (j + 1) (j + 2) := by decide +kernel
theorem rk_4 : ∀ n, n < 7 → ∀ i, i < 7 → i + 2 ≤ n → rk n i n (n + 1) = rk n (i + 1) (i + 2) (i + 3) := by decide +kernel
theorem rk_5a : (List.range 7).all (fun n => (List.range 7).all fun i => (List.range 7).all fun j => (List.range 7).all fun r => !(decide (i < j ∧ j < r ∧ r ≤ n)) || decide (rk n i j r < 35)) = true := by decide +kernel
theorem rk_5 : ∀ n, n < 7 → ∀ i, i < 7 → ∀ j, j < 7 → ∀ r, r < 7 → (i < j ∧ j < r ∧ r ≤ n) → rk n i j r < 35 := by
  intro n hn i hi j hj r hr h
  have h1 := List.all_eq_true.mp (List.all_eq_true.mp (List.all_eq_true.mp (List.all_eq_true.mp rk_5a n (List.mem_range.mpr hn)) i (List.mem_range.mpr hi)) j (List.mem_range.mpr hj)) r (List.mem_range.mpr hr)
  rw [decide_eq_true h] at h1
  exact of_decide_eq_true h1
theorem rk_6 : ∀ n, n < 7 → ∀ i, i < 8 → n ≤ i + 1 → 2 ≤ n → i ≤ n → rk n i (i + 1) (i + 2) ≤ 35 := by decide +kernel
def GT (n : Nat) (S : Nat → Nat → Nat → Prop) (σ : Nat → Nat → Int) (cn : Nat) (τ : Nat → Nat → Int) : Prop := ((∀ c, c ≠ 7 → c ≠ 8 → c ≠ 9 → c ≠ 10 → τ c = σ c) ∧ (∀ j, j ≠ 1 → τ 7 j = σ 7 j) ∧ τ 8 0 = σ 8 0 ∧ τ 9 0 = σ 9 0 ∧ τ 10 0 = σ 10 0) ∧ τ 7 1 = (cn : Int) ∧ (∀ e, 1 ≤ e → e ≤ cn → ∃ i j r, S i j r ∧ ent (σ 2) (σ 3) (σ 4) (σ 6) τ e i j r) ∧ ∀ i j r, S i j r → ∃ e, 1 ≤ e ∧ e ≤ cn ∧ ent (σ 2) (σ 3) (σ 4) (σ 6) τ e i j r
theorem GT.mono {n : Nat} {S S' : Nat → Nat → Nat → Prop} {σ τ : Nat → Nat → Int} {cn : Nat} (h : GT n S σ cn τ) (hS : ∀ i j r, S i j r ↔ S' i j r) : GT n S' σ cn τ :=
  ⟨h.1, h.2.1, fun e h1 h2 => by obtain ⟨i, j, r, h3, h4⟩ := h.2.2.1 e h1 h2; exact ⟨i, j, r, (hS i j r).mp h3, h4⟩, fun i j r hs => h.2.2.2 i j r ((hS i j r).mpr hs)⟩
theorem gt_step {n i j r cn : Nat} {S S' : Nat → Nat → Nat → Prop} {σ τ : Nat → Nat → Int} {A B M R D : Int} (h : GT n S σ cn τ) (hM : M = rs (σ 2) (σ 3) (σ 4) i j r + rs (σ 2) (σ 4) (σ 3) i j r) (hR : R = rs (σ 2) (σ 4) (σ 3) i j r - rs (σ 2) (σ 3) (σ 4) i j r) (hD : D = rs (σ 2) (σ 6) (σ 6) i j r) (hS : ∀ i' j' r', S' i' j' r' ↔ S i' j' r' ∨ (i' = i ∧ j' = j ∧ r' = r)) : GT n S' σ (cn + 1) (up (up (up (up τ 7 1 ((cn : Int) + 1)) 8 (cn + 1) M) 9 (cn + 1) R) 10 (cn + 1) D) := by
  have k8 : ∀ e, e ≠ cn + 1 → (up (up (up (up τ 7 1 ((cn : Int) + 1)) 8 (cn + 1) M) 9 (cn + 1) R) 10 (cn + 1) D) 8 e = τ 8 e := fun e he => by rw [up_c (by decide), up_c (by decide), up_k he, up_c (by decide)]
  have k9 : ∀ e, e ≠ cn + 1 → (up (up (up (up τ 7 1 ((cn : Int) + 1)) 8 (cn + 1) M) 9 (cn + 1) R) 10 (cn + 1) D) 9 e = τ 9 e := fun e he => by rw [up_c (by decide), up_k he, up_c (by decide), up_c (by decide)]
  have k10 : ∀ e, e ≠ cn + 1 → (up (up (up (up τ 7 1 ((cn : Int) + 1)) 8 (cn + 1) M) 9 (cn + 1) R) 10 (cn + 1) D) 10 e = τ 10 e := fun e he => by rw [up_k he, up_c (by decide), up_c (by decide), up_c (by decide)]
  have kn : ent (σ 2) (σ 3) (σ 4) (σ 6) (up (up (up (up τ 7 1 ((cn : Int) + 1)) 8 (cn + 1) M) 9 (cn + 1) R) 10 (cn + 1) D) (cn + 1) i j r := by
    refine ⟨?_, ?_, ?_⟩
    · rw [up_c (by decide), up_c (by decide), up_s]; exact hM
    · rw [up_c (by decide), up_s]; exact hR
    · rw [up_s]; exact hD
  have ko : ∀ e i' j' r', e ≠ cn + 1 → ent (σ 2) (σ 3) (σ 4) (σ 6) τ e i' j' r' → ent (σ 2) (σ 3) (σ 4) (σ 6) (up (up (up (up τ 7 1 ((cn : Int) + 1)) 8 (cn + 1) M) 9 (cn + 1) R) 10 (cn + 1) D) e i' j' r' := fun e i' j' r' he hh => by
    unfold ent
    rw [k8 e he, k9 e he, k10 e he]
    exact hh
  refine ⟨⟨fun c h7 h8 h9 h10 => by rw [up_c h10, up_c h9, up_c h8, up_c h7]; exact h.1.1 c h7 h8 h9 h10, fun j hj => by rw [up_c (by decide), up_c (by decide), up_c (by decide), up_k hj]; exact h.1.2.1 j hj, by rw [k8 0 (by omega)]; exact h.1.2.2.1, by rw [k9 0 (by omega)]; exact h.1.2.2.2.1, by rw [k10 0 (by omega)]; exact h.1.2.2.2.2⟩, ?_, fun e h1 h2 => ?_, fun i' j' r' hs => ?_⟩
  · rw [up_c (by decide), up_c (by decide), up_c (by decide), up_s]; omega
  · by_cases he : e = cn + 1
    · subst he; exact ⟨i, j, r, (hS i j r).mpr (Or.inr ⟨rfl, rfl, rfl⟩), kn⟩
    · obtain ⟨i', j', r', h3, h4⟩ := h.2.2.1 e h1 (by omega)
      exact ⟨i', j', r', (hS _ _ _).mpr (Or.inl h3), ko e i' j' r' he h4⟩
  · rcases (hS i' j' r').mp hs with h3 | ⟨rfl, rfl, rfl⟩
    · obtain ⟨e, h4, h5, h6⟩ := h.2.2.2 i' j' r' h3
      exact ⟨e, h4, by omega, ko e i' j' r' (by omega) h6⟩
    · exact ⟨cn + 1, by omega, by omega, kn⟩
set_option maxHeartbeats 4000000 in
set_option maxRecDepth 20000 in
theorem ga3 {g : Gx} {K : Kx} {q : Nat → Nat} {σ : Nat → Nat → Int} {nn lc : Nat} (hn : σ 1 0 = (nn : Int)) (hn2 : 2 ≤ nn) (hn6 : nn ≤ 6) (hx : ∀ i, i ≤ nn → 0 ≤ σ 2 i ∧ σ 2 i ≤ 20) (hl : ∀ i, i ≤ nn → -20 ≤ σ 3 i ∧ σ 3 i ≤ σ 4 i ∧ σ 4 i ≤ 20) (hm : ∀ i, i ≤ nn → Bd (σ 6 i) 40000) {i j : Nat} (hij : i < j) (hjn : j < nn) (C : CX g K cX5_gather RX5 9 2 50) (hk : ∀ τ : Nat → Nat → Int, GT nn (SeenG nn i j (nn + 1)) σ (rk nn i j (nn + 1)) τ → GJ g K (WC g q τ) 187 [(0, .ref (q 7)), (1, .ref (q lc)), (2, .int (iZ (i : Int))), (3, .int (iZ (j : Int))), (4, .int (iZ ((nn + 1 : Nat) : Int)))] []) : ∀ (d r : Nat), j < r → r ≤ nn + 1 → nn + 1 < r + d → ∀ (cn : Nat) (τ : Nat → Nat → Int), cn = rk nn i j r → GT nn (SeenG nn i j r) σ cn τ → GJ g K (WC g q τ) 48 [(0, .ref (q 7)), (1, .ref (q lc)), (2, .int (iZ (i : Int))), (3, .int (iZ (j : Int))), (4, .int (iZ (r : Int)))] [] := by
  intro d
  induction d with
  | zero => intro r k0 k1 k2; omega
  | succ d ih =>
    intro r k0 k1 k2 cn τ hcn hI
    have e2 : τ 2 = σ 2 := hI.1.1 2 (by decide) (by decide) (by decide) (by decide)
    have e3 : τ 3 = σ 3 := hI.1.1 3 (by decide) (by decide) (by decide) (by decide)
    have e4 : τ 4 = σ 4 := hI.1.1 4 (by decide) (by decide) (by decide) (by decide)
    have e6 : τ 6 = σ 6 := hI.1.1 6 (by decide) (by decide) (by decide) (by decide)
    refine g_iload 4 C rfl dX5_gather_48 ?_
    refine g_aload_n 0 C rfl dX5_gather_50 rfl ?_
    refine gf_X5_19 C dX5_gather_51 ?_
    refine gf_X5_33 C dX5_gather_54 ?_
    rw [show τ 1 0 = (nn : Int) from ((congrFun (hI.1.1 1 (by decide) (by decide) (by decide) (by decide)) 0).trans hn)]
    refine g_icmp_gt 187 C (by unfold I32; omega) (by unfold I32; omega) dX5_gather_57 (by decide) (fun h1 => ?_) (fun h1 => ?_)
    · obtain rfl : r = nn + 1 := by omega
      subst hcn
      exact hk τ hI
    · refine g_aload_n 0 C rfl dX5_gather_60 rfl ?_
      refine gf_X5_29 C dX5_gather_61 ?_
      rw [show τ 7 1 = (cn : Int) from hI.2.1]
      refine g_bipush C dX5_gather_64 (by decide) ?_
      refine g_icmp_ge 187 C (by have h9 := (show rk nn i j r < 36 from Nat.lt_succ_of_lt (Classical.byContradiction fun h => h (rk_5 nn (by omega) i (by omega) j (by omega) r (by omega) ⟨hij, k0, by omega⟩))); unfold I32; omega) (by unfold I32; omega) dX5_gather_66 (by decide) (fun h2 => ?_) (fun h2 => ?_)
      · exact absurd (rk_5 nn (by omega) i (by omega) j (by omega) r (by omega) ⟨hij, k0, by omega⟩) (by omega)
      · refine g_aload_n 0 C rfl dX5_gather_69 rfl ?_
        refine g_dup C dX5_gather_70 rfl ?_
        refine gf_X5_29 C dX5_gather_71 ?_
        rw [show τ 7 1 = (cn : Int) from hI.2.1]
        refine g_iconst C dX5_gather_74 ?_
        refine g_iadd C dX5_gather_75 ?_
        refine pf_X5_29 C dX5_gather_76 ?_
        refine g_aload_n 0 C rfl dX5_gather_79 rfl ?_
        refine gf_X5_19 C dX5_gather_80 ?_
        refine g_aload_n 0 C rfl dX5_gather_83 rfl ?_
        refine gf_X5_19 C dX5_gather_84 ?_
        refine gf_X5_36 C dX5_gather_87 ?_
        refine g_aload_n 0 C rfl dX5_gather_90 rfl ?_
        refine gf_X5_19 C dX5_gather_91 ?_
        refine gf_X5_40 C dX5_gather_94 ?_
        refine g_iload_n 2 C rfl dX5_gather_97 rfl ?_
        refine g_iload_n 3 C rfl dX5_gather_98 rfl ?_
        refine g_iload 4 C rfl dX5_gather_99 ?_
        refine g_callL C (c_X0_rise g (σ := (up τ 7 1 ((cn : Int) + 1))) (nn := nn) hn6 (fun i hi => by show 0 ≤ τ 2 i ∧ τ 2 i ≤ 20; rw [e2]; exact hx i hi) (ka := 3) (kb := 4) (by decide) (by decide) (fun i hi => by show Bd (τ 3 i) 40000; rw [e3]; have h9 := hl i hi; exact ⟨by omega, by omega⟩) (fun i hi => by show Bd (τ 4 i) 40000; rw [e4]; have h9 := hl i hi; exact ⟨by omega, by omega⟩) (i := i) (j := j) (r := r) (by omega) (by omega) (by omega)) gv_X5_43 yd_X0_rise ⟨by decide, by decide⟩ 1 0 (WD_get (by decide)) rfl rfl (Nat.le_of_ble_eq_true rfl) dX5_gather_101 ?_
        rintro _ _ rfl
        rw [show rs ((up τ 7 1 ((cn : Int) + 1)) 2) ((up τ 7 1 ((cn : Int) + 1)) 3) ((up τ 7 1 ((cn : Int) + 1)) 4) i j r = rs (σ 2) (σ 3) (σ 4) i j r from by show rs (τ 2) (τ 3) (τ 4) i j r = _; rw [e2, e3, e4]]
        refine g_lname (fun w3 ew3 => ?_)
        refine g_lstore (lv' := [(0, .ref (q 7)), (1, .ref (q lc)), (2, .int (iZ (i : Int))), (3, .int (iZ (j : Int))), (4, .int (iZ (r : Int))), (5, .long (lZ w3))]) [1, 2, 3, 4, 5, 0] C dX5_gather_104 (by decide) rfl ?_
        refine g_aload_n 0 C rfl dX5_gather_106 rfl ?_
        refine gf_X5_19 C dX5_gather_107 ?_
        refine g_aload_n 0 C rfl dX5_gather_110 rfl ?_
        refine gf_X5_19 C dX5_gather_111 ?_
        refine gf_X5_40 C dX5_gather_114 ?_
        refine g_aload_n 0 C rfl dX5_gather_117 rfl ?_
        refine gf_X5_19 C dX5_gather_118 ?_
        refine gf_X5_36 C dX5_gather_121 ?_
        refine g_iload_n 2 C rfl dX5_gather_124 rfl ?_
        refine g_iload_n 3 C rfl dX5_gather_125 rfl ?_
        refine g_iload 4 C rfl dX5_gather_126 ?_
        refine g_callL C (c_X0_rise g (σ := (up τ 7 1 ((cn : Int) + 1))) (nn := nn) hn6 (fun i hi => by show 0 ≤ τ 2 i ∧ τ 2 i ≤ 20; rw [e2]; exact hx i hi) (ka := 4) (kb := 3) (by decide) (by decide) (fun i hi => by show Bd (τ 4 i) 40000; rw [e4]; have h9 := hl i hi; exact ⟨by omega, by omega⟩) (fun i hi => by show Bd (τ 3 i) 40000; rw [e3]; have h9 := hl i hi; exact ⟨by omega, by omega⟩) (i := i) (j := j) (r := r) (by omega) (by omega) (by omega)) gv_X5_43 yd_X0_rise ⟨by decide, by decide⟩ 1 0 (WD_get (by decide)) rfl rfl (Nat.le_of_ble_eq_true rfl) dX5_gather_128 ?_
        rintro _ _ rfl
        rw [show rs ((up τ 7 1 ((cn : Int) + 1)) 2) ((up τ 7 1 ((cn : Int) + 1)) 4) ((up τ 7 1 ((cn : Int) + 1)) 3) i j r = rs (σ 2) (σ 4) (σ 3) i j r from by show rs (τ 2) (τ 4) (τ 3) i j r = _; rw [e2, e3, e4]]
        refine g_lname (fun w4 ew4 => ?_)
        refine g_lstore (lv' := [(0, .ref (q 7)), (1, .ref (q lc)), (2, .int (iZ (i : Int))), (3, .int (iZ (j : Int))), (4, .int (iZ (r : Int))), (5, .long (lZ w3)), (7, .long (lZ w4))]) [1, 2, 3, 4, 5, 6, 0] C dX5_gather_131 (by decide) rfl ?_
        refine g_aload_n 0 C rfl dX5_gather_133 rfl ?_
        refine gf_X5_9 C dX5_gather_134 ?_
        refine g_aload_n 0 C rfl dX5_gather_137 rfl ?_
        refine gf_X5_29 C dX5_gather_138 ?_
        rw [show (up τ 7 1 ((cn : Int) + 1)) 7 1 = (cn : Int) + 1 from up_s _ _ _ _]
        refine g_lload 5 C rfl dX5_gather_141 ?_
        refine g_lload 6 C rfl dX5_gather_143 ?_
        refine g_ladd C dX5_gather_145 ?_
        refine g_last C 8 (cn + 1) (by decide) (fun _ => rfl) (by omega) (by omega) (by decide) dX5_gather_146 ?_
        refine g_aload_n 0 C rfl dX5_gather_147 rfl ?_
        refine gf_X5_13 C dX5_gather_148 ?_
        refine g_aload_n 0 C rfl dX5_gather_151 rfl ?_
        refine gf_X5_29 C dX5_gather_152 ?_
        rw [show (up (up τ 7 1 ((cn : Int) + 1)) 8 (cn + 1) (w3 + w4)) 7 1 = (cn : Int) + 1 from rfl]
        refine g_lload 6 C rfl dX5_gather_155 ?_
        refine g_lload 5 C rfl dX5_gather_157 ?_
        refine g_lsub C dX5_gather_159 ?_
        refine g_last C 9 (cn + 1) (by decide) (fun _ => rfl) (by omega) (by omega) (by decide) dX5_gather_160 ?_
        refine g_aload_n 0 C rfl dX5_gather_161 rfl ?_
        refine gf_X5_16 C dX5_gather_162 ?_
        refine g_aload_n 0 C rfl dX5_gather_165 rfl ?_
        refine gf_X5_29 C dX5_gather_166 ?_
        rw [show (up (up (up τ 7 1 ((cn : Int) + 1)) 8 (cn + 1) (w3 + w4)) 9 (cn + 1) (w4 - w3)) 7 1 = (cn : Int) + 1 from rfl]
        refine g_aload_n 0 C rfl dX5_gather_169 rfl ?_
        refine gf_X5_19 C dX5_gather_170 ?_
        refine g_iload_n 2 C rfl dX5_gather_173 rfl ?_
        refine g_iload_n 3 C rfl dX5_gather_174 rfl ?_
        refine g_iload 4 C rfl dX5_gather_175 ?_
        refine g_callL C (c_X0_bend g (σ := (up (up (up τ 7 1 ((cn : Int) + 1)) 8 (cn + 1) (w3 + w4)) 9 (cn + 1) (w4 - w3))) (nn := nn) hn6 (fun i hi => by show 0 ≤ τ 2 i ∧ τ 2 i ≤ 20; rw [e2]; exact hx i hi) (fun i hi => by show Bd (τ 6 i) 40000; rw [e6]; exact hm i hi) (i := i) (j := j) (r := r) (by omega) (by omega) (by omega)) gv_X5_47 yd_X0_bend ⟨by decide, by decide⟩ 1 0 (WD_get (by decide)) rfl rfl (Nat.le_of_ble_eq_true rfl) dX5_gather_177 ?_
        rintro _ _ rfl
        rw [show rs ((up (up (up τ 7 1 ((cn : Int) + 1)) 8 (cn + 1) (w3 + w4)) 9 (cn + 1) (w4 - w3)) 2) ((up (up (up τ 7 1 ((cn : Int) + 1)) 8 (cn + 1) (w3 + w4)) 9 (cn + 1) (w4 - w3)) 6) ((up (up (up τ 7 1 ((cn : Int) + 1)) 8 (cn + 1) (w3 + w4)) 9 (cn + 1) (w4 - w3)) 6) i j r = rs (σ 2) (σ 6) (σ 6) i j r from by show rs (τ 2) (τ 6) (τ 6) i j r = _; rw [e2, e6]]
        refine g_last C 10 (cn + 1) (by decide) (fun _ => rfl) (by omega) (by omega) (by decide) dX5_gather_180 ?_
        refine g_iinc (lv' := [(0, .ref (q 7)), (1, .ref (q lc)), (2, .int (iZ (i : Int))), (3, .int (iZ (j : Int))), (4, .int (iZ ((r : Int) + 1))), (5, .long (lZ w3)), (7, .long (lZ w4))]) 4 [1, 2, 3, 4, 0, 5, 6] C rfl dX5_gather_181 (by decide) rfl ?_
        refine g_goto 48 C dX5_gather_184 (by decide) ?_
        subst ew4
        subst ew3
        refine g_lv [0, 1, 2, 3, 4] rfl ?_
        exact ih (r + 1) (by omega) (by omega) (by omega) (cn + 1) _ (by rw [rk_2 k0, hcn]) (gt_step (i := i) (j := j) (r := r) (A := 0) (B := 0) hI rfl rfl rfl (fun i' j' r' => by unfold SeenG; omega))
set_option maxHeartbeats 4000000 in
set_option maxRecDepth 20000 in
theorem ga2 {g : Gx} {K : Kx} {q : Nat → Nat} {σ : Nat → Nat → Int} {nn lc : Nat} (hn : σ 1 0 = (nn : Int)) (hn2 : 2 ≤ nn) (hn6 : nn ≤ 6) (hx : ∀ i, i ≤ nn → 0 ≤ σ 2 i ∧ σ 2 i ≤ 20) (hl : ∀ i, i ≤ nn → -20 ≤ σ 3 i ∧ σ 3 i ≤ σ 4 i ∧ σ 4 i ≤ 20) (hm : ∀ i, i ≤ nn → Bd (σ 6 i) 40000) {i : Nat} (hin : i + 2 ≤ nn) (C : CX g K cX5_gather RX5 9 2 50) (hk : ∀ τ : Nat → Nat → Int, GT nn (SeenG nn i nn (nn + 1)) σ (rk nn i nn (nn + 1)) τ → GJ g K (WC g q τ) 193 [(0, .ref (q 7)), (1, .ref (q lc)), (2, .int (iZ (i : Int))), (3, .int (iZ (nn : Int)))] []) : ∀ (d j : Nat), i < j → j ≤ nn → nn < j + d → ∀ (cn : Nat) (τ : Nat → Nat → Int), cn = rk nn i j (j + 1) → GT nn (SeenG nn i j (j + 1)) σ cn τ → GJ g K (WC g q τ) 32 [(0, .ref (q 7)), (1, .ref (q lc)), (2, .int (iZ (i : Int))), (3, .int (iZ (j : Int)))] [] := by
  intro d
  induction d with
  | zero => intro j k0 k1 k2; omega
  | succ d ih =>
    intro j k0 k1 k2 cn τ hcn hI
    refine g_iload_n 3 C rfl dX5_gather_32 rfl ?_
    refine g_aload_n 0 C rfl dX5_gather_33 rfl ?_
    refine gf_X5_19 C dX5_gather_34 ?_
    refine gf_X5_33 C dX5_gather_37 ?_
    rw [show τ 1 0 = (nn : Int) from ((congrFun (hI.1.1 1 (by decide) (by decide) (by decide) (by decide)) 0).trans hn)]
    refine g_icmp_ge 193 C (by unfold I32; omega) (by unfold I32; omega) dX5_gather_40 (by decide) (fun h1 => ?_) (fun h1 => ?_)
    · obtain rfl : j = nn := by omega
      subst hcn
      exact hk τ hI
    · refine g_iload_n 3 C rfl dX5_gather_43 rfl ?_
      refine g_iconst C dX5_gather_44 ?_
      refine g_iadd C dX5_gather_45 ?_
      refine g_iname (fun w2 ew2 => ?_)
      refine g_istore (lv' := [(0, .ref (q 7)), (1, .ref (q lc)), (2, .int (iZ (i : Int))), (3, .int (iZ (j : Int))), (4, .int (iZ w2))]) [1, 2, 3, 4, 0] C dX5_gather_46 (by decide) rfl ?_
      subst ew2
      refine ga3 hn hn2 hn6 hx hl hm k0 (by omega) C (fun τ2 hI2 => ?_) nn (j + 1) (by omega) (by omega) (by omega) cn τ hcn hI
      refine g_iinc (lv' := [(0, .ref (q 7)), (1, .ref (q lc)), (2, .int (iZ (i : Int))), (3, .int (iZ ((j : Int) + 1))), (4, .int (iZ ((nn + 1 : Nat) : Int)))]) 3 [1, 2, 3, 0, 4] C rfl dX5_gather_187 (by decide) rfl ?_
      refine g_goto 32 C dX5_gather_190 (by decide) ?_
      refine g_lv [0, 1, 2, 3] rfl ?_
      exact ih (j + 1) (by omega) (by omega) (by omega) _ τ2 (rk_3 nn (by omega) i (by omega) j (by omega) k0 (by omega)) (hI2.mono (fun i' j' r' => by unfold SeenG; omega))
set_option maxHeartbeats 4000000 in
set_option maxRecDepth 20000 in
theorem ga1 {g : Gx} {K : Kx} {q : Nat → Nat} {σ : Nat → Nat → Int} {nn lc : Nat} (hn : σ 1 0 = (nn : Int)) (hn2 : 2 ≤ nn) (hn6 : nn ≤ 6) (hx : ∀ i, i ≤ nn → 0 ≤ σ 2 i ∧ σ 2 i ≤ 20) (hl : ∀ i, i ≤ nn → -20 ≤ σ 3 i ∧ σ 3 i ≤ σ 4 i ∧ σ 4 i ≤ 20) (hm : ∀ i, i ≤ nn → Bd (σ 6 i) 40000) (C : CX g K cX5_gather RX5 9 2 50) (hk : ∀ τ : Nat → Nat → Int, GT nn (SeenG nn (nn - 1) nn (nn + 1)) σ (rk nn (nn - 1) nn (nn + 1)) τ → GJ g K (WC g q τ) 199 [(0, .ref (q 7)), (1, .ref (q lc)), (2, .int (iZ ((nn - 1 : Nat) : Int)))] []) : ∀ (d i : Nat), i ≤ nn - 1 → nn - 1 < i + d → ∀ (cn : Nat) (τ : Nat → Nat → Int), cn = rk nn i (i + 1) (i + 2) → GT nn (SeenG nn i (i + 1) (i + 2)) σ cn τ → GJ g K (WC g q τ) 15 [(0, .ref (q 7)), (1, .ref (q lc)), (2, .int (iZ (i : Int)))] [] := by
  intro d
  induction d with
  | zero => intro i k1 k2; omega
  | succ d ih =>
    intro i k1 k2 cn τ hcn hI
    refine g_iload_n 2 C rfl dX5_gather_15 rfl ?_
    refine g_aload_n 0 C rfl dX5_gather_16 rfl ?_
    refine gf_X5_19 C dX5_gather_17 ?_
    refine gf_X5_33 C dX5_gather_20 ?_
    rw [show τ 1 0 = (nn : Int) from ((congrFun (hI.1.1 1 (by decide) (by decide) (by decide) (by decide)) 0).trans hn)]
    refine g_iconst C dX5_gather_23 ?_
    refine g_isub C dX5_gather_24 ?_
    refine g_icmp_gt 199 C (by unfold I32; omega) (by unfold I32; omega) dX5_gather_25 (by decide) (fun h1 => ?_) (fun h1 => ?_)
    · obtain rfl : i = nn - 1 := by omega
      subst hcn
      have h9 := hk τ
      rw [show nn - 1 + 1 = nn by omega, show nn - 1 + 2 = nn + 1 by omega] at hI
      exact h9 hI
    · refine g_iload_n 2 C rfl dX5_gather_28 rfl ?_
      refine g_iconst C dX5_gather_29 ?_
      refine g_iadd C dX5_gather_30 ?_
      refine g_iname (fun w2 ew2 => ?_)
      refine g_istore_n (lv' := [(0, .ref (q 7)), (1, .ref (q lc)), (2, .int (iZ (i : Int))), (3, .int (iZ w2))]) [1, 2, 3, 0] C dX5_gather_31 rfl (by decide) rfl ?_
      subst ew2
      refine ga2 hn hn2 hn6 hx hl hm (by omega) C (fun τ2 hI2 => ?_) nn (i + 1) (by omega) (by omega) (by omega) cn τ hcn hI
      refine g_iinc (lv' := [(0, .ref (q 7)), (1, .ref (q lc)), (2, .int (iZ ((i : Int) + 1))), (3, .int (iZ (nn : Int)))]) 2 [1, 2, 0, 3] C rfl dX5_gather_193 (by decide) rfl ?_
      refine g_goto 15 C dX5_gather_196 (by decide) ?_
      refine g_lv [0, 1, 2] rfl ?_
      exact ih (i + 1) (by omega) (by omega) _ τ2 (rk_4 nn (by omega) i (by omega) (by omega)) (hI2.mono (fun i' j' r' => by unfold SeenG; omega))
