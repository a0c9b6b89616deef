theorem ms_cg {x w w' : Nat → Int} {L : Int} {i : Nat} : ∀ N, (∀ j, j < N → w j = w' j) → mosum x w L i N = mosum x w' L i N
  | 0, _ => rfl
  | 1, _ => rfl
  | (N + 2), h => by rw [mosum_s, mosum_s, ms_cg (N + 1) (fun j hj => h j (by omega)), h (N + 1) (by omega)]
theorem mo_cg {x w w' : Nat → Int} {n : Nat} (h : ∀ j, j ≤ n → w j = w' j) : mo x w n = mo x w' n := by
  funext i
  exact ms_cg n (fun j hj => h j (by omega))
theorem AR.w {x l u w w' : Nat → Int} {n : Nat} (h : AR x l u w n) (hw : ∀ i, i ≤ n → 0 ≤ w' i ∧ w' i ≤ 20) : AR x l u w' n := ⟨h.1, h.2.1, h.2.2.1, h.2.2.2.1, h.2.2.2.2.1, hw⟩
theorem HS.tr {σ τ : Nat → Nat → Int} {nn : Nat} (h : HS σ 5 nn) (hf : FrC σ τ) (hw : ∀ i, i ≤ nn → 0 ≤ τ 23 i ∧ τ 23 i ≤ 20) : HS τ 23 nn := by
  have h1 := h.fr hf
  exact ⟨h1.1, h1.2.1.w hw, h1.2.2⟩
/-- as the trial row is filled -/
def TrI (τ0 τ : Nat → Nat → Int) (w : Nat → Int) (i : Nat) : Prop := (∀ c, c ≠ 23 → τ c = τ0 c) ∧ ∀ j, j < i → τ 23 j = w j
theorem tr_s {τ0 τ : Nat → Nat → Int} {w : Nat → Int} {i : Nat} {z : Int} (h : TrI τ0 τ w i) (hz : z = w i) : TrI τ0 (up τ 23 i z) w (i + 1) := by
  refine ⟨fun c hc => by rw [up_c hc]; exact h.1 c hc, fun j hj => ?_⟩
  by_cases he : j = i
  · subst he; rw [up_s, hz]
  · rw [up_k he]; exact h.2 j (by omega)
def HL (σ : Nat → Nat → Int) (nn s : Nat) : Prop := HoldP (σ 2) (σ 3) (σ 4) (mo (σ 2) (laidW nn s (σ 5)) nn) nn 1 1
def FlC (σ : Nat → Nat → Int) (n : Nat) (z : Int) : Prop := (∃ s : Nat, s ≤ n / 2 ∧ (∀ s', s' < s → HL σ n s') ∧ ¬ HL σ n s ∧ z = (s : Int)) ∨ ((∀ s, s ≤ n / 2 → HL σ n s) ∧ z = -4)
set_option maxHeartbeats 4000000 in
set_option maxRecDepth 20000 in
theorem fl2_X6 {g : Gx} {K : Kx} {q : Nat → Nat} {σ : Nat → Nat → Int} {nn s : Nat} (hS : HS σ 5 nn) {τ0 : Nat → Nat → Int} (hF : FrC σ τ0) (hs : s ≤ nn / 2) (C : CX g K cX6_falls RX6 5 4 99) (hk : ∀ τ : Nat → Nat → Int, TrI τ0 τ (laidW nn s (σ 5)) (nn + 1) → ∀ i9 : Int, GJ g K (WC g q τ) 85 [(0, .ref (q 0)), (1, .int (iZ ((nn / 2 : Nat) : Int))), (2, .int (iZ (s : Int))), (3, .int (iZ i9))] []) : ∀ (d i : Nat), i ≤ nn + 1 → nn + 1 < i + d → ∀ τ : Nat → Nat → Int, TrI τ0 τ (laidW nn s (σ 5)) i → GJ g K (WC g q τ) 19 [(0, .ref (q 0)), (1, .int (iZ ((nn / 2 : Nat) : Int))), (2, .int (iZ (s : Int))), (3, .int (iZ (i : Int)))] [] := by
  intro d
  induction d with
  | zero => intro i k1 k2; omega
  | succ d ih =>
    intro i k1 k2 τ hI
    have hn6 := hS.2.1.1.2
    have hn2 := hS.2.1.1.1
    refine g_iload_n 3 C rfl dX6_falls_19 rfl ?_
    refine g_aload_n 0 C rfl dX6_falls_20 rfl ?_
    refine gf_X6_12 C dX6_falls_21 ?_
    refine gf_X6_64 C dX6_falls_24 ?_
    rw [show τ 1 0 = (nn : Int) from ((congrFun ((hI.1 1 (by decide)).trans (hF.1 1 (by omega))) 0).trans hS.1)]
    refine g_icmp_gt 85 C (by unfold I32; omega) (by unfold I32; omega) dX6_falls_27 (by decide) (fun h1 => ?_) (fun h1 => ?_)
    · obtain rfl : i = nn + 1 := by omega
      exact hk τ hI _
    · refine g_iload_n 3 C rfl dX6_falls_30 rfl ?_
      refine g_iload_n 2 C rfl dX6_falls_31 rfl ?_
      refine g_icmp_le 48 C (by unfold I32; omega) (by unfold I32; omega) dX6_falls_32 (by decide) (fun h2 => ?_) (fun h2 => ?_)
      · refine g_iconst C dX6_falls_48 ?_
        refine g_goto 53 C dX6_falls_49 (by decide) ?_
        refine g_istore (lv' := [(0, .ref (q 0)), (1, .int (iZ ((nn / 2 : Nat) : Int))), (2, .int (iZ (s : Int))), (3, .int (iZ (i : Int))), (4, .int (iZ 1))]) [1, 2, 3, 4, 0] C dX6_falls_53 (by decide) rfl ?_
        refine g_aload_n 0 C rfl dX6_falls_55 rfl ?_
        refine gf_X6_45 C dX6_falls_56 ?_
        refine g_iload_n 3 C rfl dX6_falls_59 rfl ?_
        refine g_iload 4 C rfl dX6_falls_60 ?_
        refine g_if_eq 77 C (by unfold I32; omega) dX6_falls_62 (by decide) (fun h3 => ?_) (fun h3 => ?_)
        · exact absurd h3 (by first | decide | omega)
        refine g_aload_n 0 C rfl dX6_falls_65 rfl ?_
        refine gf_X6_12 C dX6_falls_66 ?_
        refine gf_X6_91 C dX6_falls_69 ?_
        refine g_iload_n 3 C rfl dX6_falls_72 rfl ?_
        refine g_iald C 5 i (by decide) (fun _ => rfl) (by omega) (by omega) (by decide) dX6_falls_73 ?_
        rw [show τ 5 i = σ 5 i from congrFun ((hI.1 5 (by decide)).trans (hF.1 5 (by omega))) _]
        refine g_goto 78 C dX6_falls_74 (by decide) ?_
        refine g_iast C 23 i (by decide) (fun _ => rfl) (by omega) (by omega) (by decide) dX6_falls_78 ?_
        refine g_iinc (lv' := [(0, .ref (q 0)), (1, .int (iZ ((nn / 2 : Nat) : Int))), (2, .int (iZ (s : Int))), (3, .int (iZ ((i : Int) + 1))), (4, .int (iZ 1))]) 3 [1, 2, 3, 0, 4] C rfl dX6_falls_79 (by decide) rfl ?_
        refine g_goto 19 C dX6_falls_82 (by decide) ?_
        refine g_lv [0, 1, 2, 3] rfl ?_
        refine ih (i + 1) (by omega) (by omega) _ (tr_s hI ?_)
        unfold laidW
        (repeat' split) <;> first | rfl | (exfalso; omega)
      · refine g_iload_n 3 C rfl dX6_falls_35 rfl ?_
        refine g_aload_n 0 C rfl dX6_falls_36 rfl ?_
        refine gf_X6_12 C dX6_falls_37 ?_
        refine gf_X6_64 C dX6_falls_40 ?_
        rw [show τ 1 0 = (nn : Int) from ((congrFun ((hI.1 1 (by decide)).trans (hF.1 1 (by omega))) 0).trans hS.1)]
        refine g_iload_n 2 C rfl dX6_falls_43 rfl ?_
        refine g_isub C dX6_falls_44 ?_
        refine g_icmp_lt 52 C (by unfold I32; omega) (by unfold I32; omega) dX6_falls_45 (by decide) (fun h4 => ?_) (fun h4 => ?_)
        · refine g_iconst C dX6_falls_52 ?_
          refine g_istore (lv' := [(0, .ref (q 0)), (1, .int (iZ ((nn / 2 : Nat) : Int))), (2, .int (iZ (s : Int))), (3, .int (iZ (i : Int))), (4, .int (iZ 0))]) [1, 2, 3, 4, 0] C dX6_falls_53 (by decide) rfl ?_
          refine g_aload_n 0 C rfl dX6_falls_55 rfl ?_
          refine gf_X6_45 C dX6_falls_56 ?_
          refine g_iload_n 3 C rfl dX6_falls_59 rfl ?_
          refine g_iload 4 C rfl dX6_falls_60 ?_
          refine g_if_eq 77 C (by unfold I32; omega) dX6_falls_62 (by decide) (fun h5 => ?_) (fun h5 => ?_)
          · refine g_iconst C dX6_falls_77 ?_
            refine g_iast C 23 i (by decide) (fun _ => rfl) (by omega) (by omega) (by decide) dX6_falls_78 ?_
            refine g_iinc (lv' := [(0, .ref (q 0)), (1, .int (iZ ((nn / 2 : Nat) : Int))), (2, .int (iZ (s : Int))), (3, .int (iZ ((i : Int) + 1))), (4, .int (iZ 0))]) 3 [1, 2, 3, 0, 4] C rfl dX6_falls_79 (by decide) rfl ?_
            refine g_goto 19 C dX6_falls_82 (by decide) ?_
            refine g_lv [0, 1, 2, 3] rfl ?_
            refine ih (i + 1) (by omega) (by omega) _ (tr_s hI ?_)
            unfold laidW
            (repeat' split) <;> first | rfl | (exfalso; omega)
          · exact absurd h5 (by first | decide | omega)
        · refine g_iconst C dX6_falls_48 ?_
          refine g_goto 53 C dX6_falls_49 (by decide) ?_
          refine g_istore (lv' := [(0, .ref (q 0)), (1, .int (iZ ((nn / 2 : Nat) : Int))), (2, .int (iZ (s : Int))), (3, .int (iZ (i : Int))), (4, .int (iZ 1))]) [1, 2, 3, 4, 0] C dX6_falls_53 (by decide) rfl ?_
          refine g_aload_n 0 C rfl dX6_falls_55 rfl ?_
          refine gf_X6_45 C dX6_falls_56 ?_
          refine g_iload_n 3 C rfl dX6_falls_59 rfl ?_
          refine g_iload 4 C rfl dX6_falls_60 ?_
          refine g_if_eq 77 C (by unfold I32; omega) dX6_falls_62 (by decide) (fun h6 => ?_) (fun h6 => ?_)
          · exact absurd h6 (by first | decide | omega)
          refine g_aload_n 0 C rfl dX6_falls_65 rfl ?_
          refine gf_X6_12 C dX6_falls_66 ?_
          refine gf_X6_91 C dX6_falls_69 ?_
          refine g_iload_n 3 C rfl dX6_falls_72 rfl ?_
          refine g_iald C 5 i (by decide) (fun _ => rfl) (by omega) (by omega) (by decide) dX6_falls_73 ?_
          rw [show τ 5 i = σ 5 i from congrFun ((hI.1 5 (by decide)).trans (hF.1 5 (by omega))) _]
          refine g_goto 78 C dX6_falls_74 (by decide) ?_
          refine g_iast C 23 i (by decide) (fun _ => rfl) (by omega) (by omega) (by decide) dX6_falls_78 ?_
          refine g_iinc (lv' := [(0, .ref (q 0)), (1, .int (iZ ((nn / 2 : Nat) : Int))), (2, .int (iZ (s : Int))), (3, .int (iZ ((i : Int) + 1))), (4, .int (iZ 1))]) 3 [1, 2, 3, 0, 4] C rfl dX6_falls_79 (by decide) rfl ?_
          refine g_goto 19 C dX6_falls_82 (by decide) ?_
          refine g_lv [0, 1, 2, 3] rfl ?_
          refine ih (i + 1) (by omega) (by omega) _ (tr_s hI ?_)
          unfold laidW
          (repeat' split) <;> first | rfl | (exfalso; omega)
set_option maxHeartbeats 4000000 in
set_option maxRecDepth 20000 in
theorem fl1_X6 {g : Gx} {K : Kx} {q : Nat → Nat} {σ : Nat → Nat → Int} {nn : Nat} (hS : HS σ 5 nn) (C : CX g K cX6_falls RX6 5 4 99) (T : RT g K (some .int) (fun u => WC g q u) (pI (fun z u => FrC σ u ∧ FlC σ nn z))) : ∀ (d s : Nat), s ≤ nn / 2 + 1 → nn / 2 + 1 < s + d → ∀ τ0 : Nat → Nat → Int, FrC σ τ0 → (∀ s', s' < s → HL σ nn s') → GJ g K (WC g q τ0) 12 [(0, .ref (q 0)), (1, .int (iZ ((nn / 2 : Nat) : Int))), (2, .int (iZ (s : Int)))] [] := by
  intro d
  induction d with
  | zero => intro s k1 k2; omega
  | succ d ih =>
    intro s k1 k2 τ0 hF hI
    have hn6 := hS.2.1.1.2
    have hn2 := hS.2.1.1.1
    refine g_iload_n 2 C rfl dX6_falls_12 rfl ?_
    refine g_iload_n 1 C rfl dX6_falls_13 rfl ?_
    refine g_icmp_gt 104 C (by unfold I32; omega) (by unfold I32; omega) dX6_falls_14 (by decide) (fun h1 => ?_) (fun h1 => ?_)
    · refine g_bipush C dX6_falls_104 (by decide) ?_
      refine g_iret (u := τ0) C T dX6_falls_106 ?_
      exact ⟨_, rfl, hF, Or.inr ⟨fun s' h9 => hI s' (by omega), rfl⟩⟩
    · refine g_iconst C dX6_falls_17 ?_
      refine g_istore_n (lv' := [(0, .ref (q 0)), (1, .int (iZ ((nn / 2 : Nat) : Int))), (2, .int (iZ (s : Int))), (3, .int (iZ 0))]) [1, 2, 3, 0] C dX6_falls_18 rfl (by decide) rfl ?_
      refine fl2_X6 hS hF (by omega) C (fun τ hR i9 => ?_) (nn + 2) 0 (by omega) (by omega) τ0 ⟨fun _ _ => rfl, fun j hj => absurd hj (Nat.not_lt_zero _)⟩
      refine g_aload_n 0 C rfl dX6_falls_85 rfl ?_
      refine g_aload_n 0 C rfl dX6_falls_86 rfl ?_
      refine gf_X6_45 C dX6_falls_87 ?_
      have hFt : FrC σ τ := hF.tr ⟨fun c hc => hR.1 c (by omega), by rw [hR.1 8 (by decide)], by rw [hR.1 9 (by decide)], by rw [hR.1 10 (by decide)]⟩
      have hw20 : ∀ i, i ≤ nn → 0 ≤ τ 23 i ∧ τ 23 i ≤ 20 := fun i hi => by
        rw [hR.2 i (by omega)]
        have h9 := hS.2.1.2.2.2.2.2 i hi
        unfold laidW
        (repeat' split) <;> omega
      have hSt := hS.tr hFt hw20
      refine g_callI C (c_X6_holdsUnder g (σ := τ) (nn := nn) (lc := 23) (Or.inr rfl) hSt) gv_X6_134 yd_X6_holdsUnder ⟨by decide, by decide⟩ 0 6 (WD_get (by decide)) rfl rfl (Nat.le_of_ble_eq_true rfl) dX6_falls_90 ?_
      rintro _ u1 ⟨hG, rfl⟩
      rw [show HoldP (τ 2) (τ 3) (τ 4) (mo (τ 2) (τ 23) nn) nn 1 1 = HL σ nn s by unfold HL; rw [mo_cg (x := τ 2) (fun j hj => hR.2 j (by omega)), hFt.1 2 (by omega), hFt.1 3 (by omega), hFt.1 4 (by omega)]]
      refine g_bne 98 C dX6_falls_93 (by decide) (fun h1 => ?_) (fun h1 => ?_)
      · refine g_iinc (lv' := [(0, .ref (q 0)), (1, .int (iZ ((nn / 2 : Nat) : Int))), (2, .int (iZ ((s : Int) + 1))), (3, .int (iZ i9))]) 2 [1, 2, 0, 3] C rfl dX6_falls_98 (by decide) rfl ?_
        refine g_goto 12 C dX6_falls_101 (by decide) ?_
        refine g_lv [0, 1, 2] rfl ?_
        exact ih (s + 1) (by omega) (by omega) u1 (hFt.tr hG.fr) (fun s' h9 => by by_cases he : s' = s; (· subst he; exact h1); exact hI s' (by omega))
      · refine g_iload_n 2 C rfl dX6_falls_96 rfl ?_
        refine g_iret (u := u1) C T dX6_falls_97 ?_
        exact ⟨_, rfl, hFt.tr hG.fr, Or.inl ⟨s, by omega, hI, h1, rfl⟩⟩
set_option maxHeartbeats 4000000 in
set_option maxRecDepth 20000 in
theorem c_X6_falls (g : Gx) {q : Nat → Nat} {σ : Nat → Nat → Int} {nn : Nat} (hS : HS σ 5 nn) : MC g yX6_falls cX6_falls 5 ((some .int)) 4 99 (WC g q σ) [.ref (q 0)] (fun u => WC g q u) (pI (fun z u => FrC σ u ∧ FlC σ nn z)) := by
  refine MC_intro (own := RX6) rfl (by decide) (Nat.le_of_ble_eq_true rfl) (fun K C T => ?_)
  show GJ g K (WC g q σ) 0 [(0, .ref (q 0))] []
  refine g_aload_n 0 C rfl dX6_falls_0 rfl ?_
  refine gf_X6_12 C dX6_falls_1 ?_
  refine gf_X6_64 C dX6_falls_4 ?_
  rw [show σ 1 0 = (nn : Int) from hS.1]
  refine g_iconst C dX6_falls_7 ?_
  refine g_idiv C dX6_falls_8 (by have h9 := hS.2.1.1; unfold I32; omega) (by have h9 := hS.2.1.1; unfold I32; omega) (by omega) ?_
  refine g_iname (fun w1 ew1 => ?_)
  refine g_istore_n (lv' := [(0, .ref (q 0)), (1, .int (iZ w1))]) [1, 0] C dX6_falls_9 rfl (by decide) rfl ?_
  refine g_iconst C dX6_falls_10 ?_
  refine g_istore_n (lv' := [(0, .ref (q 0)), (1, .int (iZ w1)), (2, .int (iZ 0))]) [1, 2, 0] C dX6_falls_11 rfl (by decide) rfl ?_
  obtain rfl : w1 = ((nn / 2 : Nat) : Int) := by rw [ew1]; exact (Int.ofNat_tdiv nn 2).symm
  exact fl1_X6 hS C T (nn + 2) 0 (by omega) (by omega) σ (FrC.rf σ) (fun s' h9 => absurd h9 (Nat.not_lt_zero _))
def morW (w : Nat → Int) (p : Int) (i : Nat) : Nat → Int := updI w i (w i + p)
def HJc (σ : Nat → Nat → Int) (nn : Nat) (p : Int) (i : Nat) (a b : Int) : Prop := FacP (σ 2) (σ 3) (σ 4) (mo (σ 2) (morW (σ 5) p i) nn) nn a b
def HNc (σ : Nat → Nat → Int) (nn : Nat) (p : Int) (i : Nat) : Prop := NoFac (σ 2) (σ 3) (σ 4) (mo (σ 2) (morW (σ 5) p i) nn) nn
def HrC (σ : Nat → Nat → Int) (nn : Nat) (p z : Int) : Prop := (¬ (1 ≤ p ∧ p ≤ 10) ∧ z = -1) ∨ ((1 ≤ p ∧ p ≤ 10) ∧ ∃ fa fb : Nat → Int, (∃ j : Nat, 1 ≤ j ∧ j < nn ∧ (∀ i, 1 ≤ i → i < j → HJc σ nn p i (fa i) (fb i)) ∧ HNc σ nn p j ∧ z = (j : Int)) ∨ ((∀ i, 1 ≤ i → i < nn → HJc σ nn p i (fa i) (fb i)) ∧ ∃ j : Nat, 1 ≤ j ∧ j < nn ∧ z = (j : Int) ∧ (∀ i, 1 ≤ i → i < nn → fa i * fb j ≤ fa j * fb i) ∧ ∀ i, 1 ≤ i → i < j → fa i * fb j < fa j * fb i))
def HWc (fa fb : Nat → Int) (i : Nat) (wh : Nat) (a b : Int) : Prop := ∃ w : Int, HW fa fb i w a b ∧ ((w = 0 ∧ wh = 1) ∨ (w ≠ 0 ∧ w = (wh : Int)))
theorem rN_1 {a b : Int} (h : Nat.gcd a.natAbs b.natAbs = 1) : rN a b = a ∧ rD a b = b := by
  unfold rN rD gcZ
  rw [h]
  exact ⟨Int.tdiv_one a, Int.tdiv_one b⟩
theorem hwc_new {fa fb : Nat → Int} {i wh : Nat} {a b A B : Int} (hi : 1 ≤ i) (hpos : ∀ j, 1 ≤ j → j < i → 0 < fb j) (hB : 0 < B) (h : HWc fa fb i wh a b) (hn : a * B < A * b) : HWc (updF fa i A) (updF fb i B) (i + 1) i A B := by
  obtain ⟨w, h1, h2⟩ := h
  exact ⟨(i : Int), hw_new hi hpos hB h1 (Or.inr hn), Or.inr ⟨by omega, rfl⟩⟩
theorem hwc_old {fa fb : Nat → Int} {i wh : Nat} {a b A B : Int} (hpos : ∀ j, 1 ≤ j → j < i → 0 < fb j) (hA : 0 ≤ A) (hB : 0 < B) (hg : Nat.gcd A.natAbs B.natAbs = 1) (h : HWc fa fb i wh a b) (hn : ¬ a * B < A * b) : HWc (updF fa i A) (updF fb i B) (i + 1) wh a b := by
  obtain ⟨w, h1, h2⟩ := h
  by_cases hw : w = 0
  · have h3 : i = 1 ∧ a = 0 ∧ b = 1 ∧ wh = 1 := by
      rcases h1 with ⟨e1, e2, e3, e4⟩ | ⟨j, e1, e2, e3, _⟩ <;> omega
    obtain ⟨rfl, rfl, rfl, rfl⟩ := h3
    have hA0 : A = 0 := by omega
    subst hA0
    have hB1 : B = 1 := by
      have : B.natAbs = 1 := by simpa using hg
      omega
    subst hB1
    exact ⟨((1 : Nat) : Int), hw_new (Nat.le_refl 1) hpos hB h1 (Or.inl hw), Or.inr ⟨by decide, rfl⟩⟩
  · refine ⟨w, hw_old h1 (fun h => ?_), h2⟩
    rcases h with h | h
    · exact hw h
    · exact hn h
theorem fac_cg {x x' l l' u u' m m' : Nat → Int} {n : Nat} {a b : Int} (h1 : x = x') (h2 : l = l') (h3 : u = u') (h4 : m = m') (h : FacP x l u m n a b) : FacP x' l' u' m' n a b := by subst h1; subst h2; subst h3; subst h4; exact h
set_option maxHeartbeats 4000000 in
set_option maxRecDepth 20000 in
theorem ha1_X6 {g : Gx} {K : Kx} {q : Nat → Nat} {σ : Nat → Nat → Int} {nn : Nat} (hS : HS σ 5 nn) (hw10 : ∀ i, i ≤ nn → 0 ≤ σ 5 i ∧ σ 5 i ≤ 10) {pa : Int} (hp : 1 ≤ pa ∧ pa ≤ 10) (C : CX g K cX6_harms RX6 4 4 102) (T : RT g K (some .int) (fun u => WC g q u) (pI (fun z u => FrC σ u ∧ HrC σ nn pa z))) : ∀ (d i : Nat), 1 ≤ i → i ≤ nn → nn < i + d → ∀ (τ : Nat → Nat → Int) (wh : Nat) (fa fb : Nat → Int), FrC σ τ → PQ (τ 25 0) (τ 25 1) → (∀ i', 1 ≤ i' → i' < i → HJc σ nn pa i' (fa i') (fb i')) → HWc fa fb i wh (τ 25 0) (τ 25 1) → GJ g K (WC g q τ) 26 [(0, .ref (q 0)), (1, .int (iZ pa)), (2, .int (iZ (wh : Int))), (3, .int (iZ (i : Int)))] [] := by
  intro d
  induction d with
  | zero => intro i k0 k1 k2; omega
  | succ d ih =>
    intro i k0 k1 k2 τ wh fa fb hF hPQ hI hW
    have hn6 := hS.2.1.1.2
    have hn2 := hS.2.1.1.1
    have hpos : ∀ j, 1 ≤ j → j < i → 0 < fb j := fun j h1 h2 => (hI j h1 h2).1.2.2.1
    refine g_iload_n 3 C rfl dX6_harms_26 rfl ?_
    refine g_aload_n 0 C rfl dX6_harms_27 rfl ?_
    refine gf_X6_12 C dX6_harms_28 ?_
    refine gf_X6_64 C dX6_harms_31 ?_
    rw [show τ 1 0 = (nn : Int) from ((congrFun (hF.1 1 (by omega)) 0).trans hS.1)]
    refine g_icmp_ge 135 C (by unfold I32; omega) (by unfold I32; omega) dX6_harms_34 (by decide) (fun h1 => ?_) (fun h1 => ?_)
    · refine g_iload_n 2 C rfl dX6_harms_135 rfl ?_
      refine g_iret (u := τ) C T dX6_harms_136 ?_
      obtain ⟨w9, hq1, hq2⟩ := hW
      obtain rfl : i = nn := by omega
      rcases hq1 with ⟨e1, _⟩ | ⟨j, e1, e2, e3, e4, e5, e6, e7⟩
      · omega
      · refine ⟨_, rfl, hF, Or.inr ⟨hp, fa, fb, Or.inr ⟨hI, j, e1, e2, ?_, e6, e7⟩⟩⟩
        omega
    · refine g_aload_n 0 C rfl dX6_harms_37 rfl ?_
      refine gf_X6_12 C dX6_harms_38 ?_
      refine gf_X6_91 C dX6_harms_41 ?_
      refine g_iconst C dX6_harms_44 ?_
      refine g_aload_n 0 C rfl dX6_harms_45 rfl ?_
      refine gf_X6_45 C dX6_harms_46 ?_
      refine g_iconst C dX6_harms_49 ?_
      refine g_bipush C dX6_harms_50 (by decide) ?_
      refine g_acopy C 5 23 7 (by decide) (by decide) (fun _ => rfl) (fun _ => rfl) (by decide) wm_X6_205 (Nat.le_of_ble_eq_true rfl) (Nat.le_of_ble_eq_true rfl) dX6_harms_52 ?_
      refine g_aload_n 0 C rfl dX6_harms_55 rfl ?_
      refine gf_X6_45 C dX6_harms_56 ?_
      refine g_iload_n 3 C rfl dX6_harms_59 rfl ?_
      refine g_dup2 C dX6_harms_60 rfl rfl ?_
      refine g_iald C 23 i (by decide) (fun _ => rfl) (by omega) (by omega) (by decide) dX6_harms_61 ?_
      refine g_iload_n 1 C rfl dX6_harms_62 rfl ?_
      refine g_iadd C dX6_harms_63 ?_
      refine g_iast C 23 i (by decide) (fun _ => rfl) (by omega) (by omega) (by decide) dX6_harms_64 ?_
      obtain ⟨s2, hs2⟩ : ∃ s2, s2 = (up (upf τ 23 (cpyI (τ 5) (τ 23) 7)) 23 i (((upf τ 23 (cpyI (τ 5) (τ 23) 7)) 23 i) + pa)) := ⟨_, rfl⟩
      rw [← hs2]
      have hs23 : ∀ j, j ≤ nn → s2 23 j = morW (σ 5) pa i j := fun j hj => by
        rw [hs2]
        unfold morW updI
        by_cases he : j = i
        · subst he; rw [up_s, if_pos rfl]; simp only [upf, cpyI, if_true]; rw [if_pos (by omega), hF.1 5 (by omega)]
        · rw [up_k he, if_neg he]; simp only [upf, cpyI, if_true]; rw [if_pos (by omega), hF.1 5 (by omega)]
      have hsc : ∀ c, c ≠ 23 → s2 c = τ c := fun c hc => by rw [hs2, up_c hc]; simp only [upf, if_neg hc]
      have hF2 : FrC σ s2 := hF.tr ⟨fun c hc => hsc c (by omega), by rw [hsc 8 (by decide)], by rw [hsc 9 (by decide)], by rw [hsc 10 (by decide)]⟩
      have hSt : HS s2 23 nn := hS.tr hF2 (fun j hj => by rw [hs23 j hj]; have h9 := hw10 j hj; have h8 := hw10 i (by omega); unfold morW updI; split <;> omega)
      refine g_aload_n 0 C rfl dX6_harms_65 rfl ?_
      refine gf_X6_21 C dX6_harms_66 ?_
      refine g_aload_n 0 C rfl dX6_harms_69 rfl ?_
      refine gf_X6_45 C dX6_harms_70 ?_
      refine g_callV C (c_X5_gather g (σ := s2) (nn := nn) (lc := 23) hSt.1 hSt.2.1.1.1 hSt.2.1.1.2 (by omega) hSt.hx hSt.hl hSt.hmo) gv_X6_199 yd_X5_gather ⟨by decide, by decide⟩ 7 5 (WD_get (by decide)) rfl rfl (Nat.le_of_ble_eq_true rfl) dX6_harms_73 ?_
      intro u1 hG
      obtain ⟨cnt, hcn, hT⟩ := hSt.tb hG
      refine g_aload_n 0 C rfl dX6_harms_76 rfl ?_
      refine gf_X6_21 C dX6_harms_77 ?_
      refine g_aload_n 0 C rfl dX6_harms_80 rfl ?_
      refine gf_X6_52 C dX6_harms_81 ?_
      refine g_callI C (c_X5_leastFactor g (σ := u1) hT) gv_X6_202 yd_X5_leastFactor ⟨by decide, by decide⟩ 7 5 (WD_get (by decide)) rfl rfl (Nat.le_of_ble_eq_true rfl) dX6_harms_84 ?_
      rintro z u2 ⟨hF3, hz⟩
      have hFu : FrC σ u2 := (hF2.tr hG.fr).tr (FrC.f24 hF3)
      have h25 : u2 25 = τ 25 := by rw [hF3 25 (by decide), hG.1.1 25 (by decide) (by decide) (by decide) (by decide) (by decide), hsc 25 (by decide)]
      have hmc : mo (s2 2) (s2 23) nn = mo (σ 2) (morW (σ 5) pa i) nn := by rw [mo_cg (x := s2 2) hs23, hF2.1 2 (by omega)]
      refine g_if_ne 92 C (by rcases hz with h | h <;> unfold I32 <;> omega) dX6_harms_87 (by decide) (fun h2 => ?_) (fun h2 => ?_)
      · have hFac : HJc σ nn pa i (u2 24 0) (u2 24 1) := by
          rcases hz with hz | hz
          · exact fac_cg (hF2.1 2 (by omega)) (hF2.1 3 (by omega)) (hF2.1 4 (by omega)) hmc (hz.2.fac hG hcn hT)
          · omega
        obtain ⟨p1, p2, p3, p4⟩ := hFac.1
        obtain ⟨p5, p6, p7, p8⟩ := hPQ
        refine g_aload_n 0 C rfl dX6_harms_92 rfl ?_
        refine gf_X6_52 C dX6_harms_93 ?_
        refine g_aload_n 0 C rfl dX6_harms_96 rfl ?_
        refine gf_X6_56 C dX6_harms_97 ?_
        refine g_callI C (c_X2_isAbove g (σ := u2) ((Bd.mul (A := 2560000000) (B := 2560000000) ⟨by omega, by omega⟩ (by rw [h25]; exact ⟨by omega, by omega⟩)).I (by decide)) ((Bd.mul (A := 2560000000) (B := 2560000000) (by rw [h25]; exact ⟨by omega, by omega⟩) ⟨by omega, by omega⟩).I (by decide))) gv_X6_211 yd_X2_isAbove ⟨by decide, by decide⟩ 24 2 (WD_get (by decide)) rfl rfl (Nat.le_of_ble_eq_true rfl) dX6_harms_100 ?_
        rintro _ _ rfl
        rw [h25]
        refine g_beq 129 C dX6_harms_103 (by decide) (fun h3 => ?_) (fun h3 => ?_)
        · refine g_iinc (lv' := [(0, .ref (q 0)), (1, .int (iZ pa)), (2, .int (iZ (wh : Int))), (3, .int (iZ ((i : Int) + 1)))]) 3 [1, 2, 3, 0] C rfl dX6_harms_129 (by decide) rfl ?_
          refine g_goto 26 C dX6_harms_132 (by decide) ?_
          refine g_lv [0, 1, 2, 3] rfl ?_
          refine ih (i + 1) (by omega) (by omega) (by omega) u2 wh (updF fa i (u2 24 0)) (updF fb i (u2 24 1)) hFu (by rw [h25]; exact ⟨p5, p6, p7, p8⟩) (fun i' h1 h2 => by by_cases he : i' = i; (· subst he; rw [updF_s, updF_s]; exact hFac); rw [updF_n he, updF_n he]; exact hI i' h1 (by omega)) ?_
          rw [h25]
          exact hwc_old hpos p1 p3 hFac.2.1 hW h3
        · refine g_aload_n 0 C rfl dX6_harms_106 rfl ?_
          refine gf_X6_56 C dX6_harms_107 ?_
          refine g_aload_n 0 C rfl dX6_harms_110 rfl ?_
          refine gf_X6_52 C dX6_harms_111 ?_
          refine gf_X6_152 (Or.inl rfl) C dX6_harms_114 ?_
          refine g_aload_n 0 C rfl dX6_harms_117 rfl ?_
          refine gf_X6_52 C dX6_harms_118 ?_
          refine gf_X6_158 (Or.inl rfl) C dX6_harms_121 ?_
          refine g_callV C (c_X2_become g (σ := u2) (c := 25) (Or.inr rfl) (A := u2 24 0) (B := u2 24 1) ⟨by omega, by omega⟩ (by omega) (by omega)) gv_X6_165 yd_X2_become ⟨by decide, by decide⟩ 25 2 (WD_get (by decide)) rfl rfl (Nat.le_of_ble_eq_true rfl) dX6_harms_124 ?_
          rintro _ rfl
          refine g_iload_n 3 C rfl dX6_harms_127 rfl ?_
          refine g_istore_n (lv' := [(0, .ref (q 0)), (1, .int (iZ pa)), (2, .int (iZ (i : Int))), (3, .int (iZ (i : Int)))]) [1, 2, 0, 3] C dX6_harms_128 rfl (by decide) rfl ?_
          refine g_iinc (lv' := [(0, .ref (q 0)), (1, .int (iZ pa)), (2, .int (iZ (i : Int))), (3, .int (iZ ((i : Int) + 1)))]) 3 [1, 2, 3, 0] C rfl dX6_harms_129 (by decide) rfl ?_
          refine g_goto 26 C dX6_harms_132 (by decide) ?_
          refine g_lv [0, 1, 2, 3] rfl ?_
          have hr1 := rN_1 hFac.2.1
          refine ih (i + 1) (by omega) (by omega) (by omega) _ i (updF fa i (u2 24 0)) (updF fb i (u2 24 1)) (hFu.tr ⟨fun c hc => redP_c (by omega), by rw [redP_c (by decide)], by rw [redP_c (by decide)], by rw [redP_c (by decide)]⟩) (by rw [redP_0', redP_1', hr1.1, hr1.2]; exact ⟨p1, p2, p3, p4⟩) (fun i' h1 h2 => by by_cases he : i' = i; (· subst he; rw [updF_s, updF_s]; exact hFac); rw [updF_n he, updF_n he]; exact hI i' h1 (by omega)) ?_
          rw [redP_0', redP_1', hr1.1, hr1.2]
          exact hwc_new k0 hpos p3 hW h3
      · refine g_iload_n 3 C rfl dX6_harms_90 rfl ?_
        refine g_iret (u := u2) C T dX6_harms_91 ?_
        rcases hz with hz | hz
        · omega
        · refine ⟨_, rfl, hFu, Or.inr ⟨hp, fa, fb, Or.inl ⟨i, k0, by omega, hI, ?_, rfl⟩⟩⟩
          have h9 := LF.no hG hcn hT hz.2
          unfold HNc
          rw [hmc, hF2.1 2 (by omega), hF2.1 3 (by omega), hF2.1 4 (by omega)] at h9
          exact h9
set_option maxHeartbeats 4000000 in
set_option maxRecDepth 20000 in
theorem c_X6_harms (g : Gx) {q : Nat → Nat} {σ : Nat → Nat → Int} {nn : Nat} (hS : HS σ 5 nn) (hw10 : ∀ i, i ≤ nn → 0 ≤ σ 5 i ∧ σ 5 i ≤ 10) {pa : Int} (h_pa : I32 pa) : MC g yX6_harms cX6_harms 4 ((some .int)) 4 102 (WC g q σ) [.ref (q 0), .int (iZ pa)] (fun u => WC g q u) (pI (fun z u => FrC σ u ∧ HrC σ nn pa z)) := by
  refine MC_intro (own := RX6) rfl (by decide) (Nat.le_of_ble_eq_true rfl) (fun K C T => ?_)
  show GJ g K (WC g q σ) 0 [(0, .ref (q 0)), (1, .int (iZ pa))] []
  refine g_iload_n 1 C rfl dX6_harms_0 rfl ?_
  refine g_iconst C dX6_harms_1 ?_
  refine g_icmp_lt 11 C h_pa (by unfold I32 at *; omega) dX6_harms_2 (by decide) (fun h1 => ?_) (fun h1 => ?_)
  · refine g_iconst C dX6_harms_11 ?_
    refine g_iret (u := σ) C T dX6_harms_12 ?_
    exact ⟨_, rfl, FrC.rf σ, Or.inl ⟨by omega, rfl⟩⟩
  · refine g_iload_n 1 C rfl dX6_harms_5 rfl ?_
    refine g_bipush C dX6_harms_6 (by decide) ?_
    refine g_icmp_le 13 C h_pa (by unfold I32 at *; omega) dX6_harms_8 (by decide) (fun h2 => ?_) (fun h2 => ?_)
    · refine g_iconst C dX6_harms_13 ?_
      refine g_istore_n (lv' := [(0, .ref (q 0)), (1, .int (iZ pa)), (2, .int (iZ 1))]) [1, 2, 0] C dX6_harms_14 rfl (by decide) rfl ?_
      refine g_aload_n 0 C rfl dX6_harms_15 rfl ?_
      refine gf_X6_56 C dX6_harms_16 ?_
      refine g_lconst 0 C dX6_harms_19 (by decide) ?_
      refine g_lconst 1 C dX6_harms_20 (by decide) ?_
      refine g_callV C (c_X2_become g (σ := σ) (c := 25) (Or.inr rfl) (A := 0) (B := 1) ⟨by omega, by omega⟩ (by omega) (by omega)) gv_X6_165 yd_X2_become ⟨by decide, by decide⟩ 25 2 (WD_get (by decide)) rfl rfl (Nat.le_of_ble_eq_true rfl) dX6_harms_21 ?_
      rintro _ rfl
      refine g_iconst C dX6_harms_24 ?_
      refine g_istore_n (lv' := [(0, .ref (q 0)), (1, .int (iZ pa)), (2, .int (iZ 1)), (3, .int (iZ 1))]) [1, 2, 3, 0] C dX6_harms_25 rfl (by decide) rfl ?_
      exact ha1_X6 hS hw10 (by omega) C T nn 1 (by omega) (by have h9 := hS.2.1.1; omega) (by have h9 := hS.2.1.1; omega) _ 1 (fun _ => 0) (fun _ => 1) (⟨fun c hc => redP_c (by omega), by rw [redP_c (by decide)], by rw [redP_c (by decide)], by rw [redP_c (by decide)]⟩) (by rw [redP_0', redP_1', show rN 0 1 = 0 by decide, show rD 0 1 = 1 by decide]; unfold PQ; decide) (fun i' h1 h2 => by omega) ⟨0, Or.inl ⟨rfl, rfl, by rw [redP_0']; decide, by rw [redP_1']; decide⟩, Or.inl ⟨rfl, rfl⟩⟩
    · refine g_iconst C dX6_harms_11 ?_
      refine g_iret (u := σ) C T dX6_harms_12 ?_
      exact ⟨_, rfl, FrC.rf σ, Or.inl ⟨by omega, rfl⟩⟩
