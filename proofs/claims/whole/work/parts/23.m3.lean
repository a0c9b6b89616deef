/-- nothing but cells of spot and 'by' -/
def FrS (σ u : Nat → Nat → Int) : Prop := (∀ c, c ≠ 0 → c ≠ 9 → u c = σ c) ∧ ∀ j, j ≠ 11 → u 0 j = σ 0 j
set_option maxHeartbeats 4000000 in
set_option maxRecDepth 20000 in
theorem c_X7_turnSpot (g : Gx) {q : Nat → Nat} {σ : Nat → Nat → Int} (hb : I64 (σ 0 11)) : MC g yX7_turnSpot cX7_turnSpot 2 (none) 0 0 (WM g q σ) [.ref (q 0)] (fun u => WM g q u) (pV (fun u => FrS σ u ∧ ((0 ≤ σ 0 11 ∧ u = σ) ∨ (σ 0 11 < 0 ∧ u 0 11 = -σ 0 11 ∧ ∀ c, c < 4 → u 9 c = -σ 9 c)))) := by
  refine MC_intro (own := RX7) rfl (by decide) (Nat.le_of_ble_eq_true rfl) (fun K C T => ?_)
  show GJ g K (WM g q σ) 0 [(0, .ref (q 0))] []
  refine g_aload_n 0 C rfl dX7_turnSpot_0 rfl ?_
  refine gf_X7_91 C dX7_turnSpot_1 ?_
  refine g_lconst 0 C dX7_turnSpot_4 (by decide) ?_
  refine g_lcmp_ge 44 C hb (by unfold I64; omega) dX7_turnSpot_5 dX7_turnSpot_6 (by decide) (fun h1 => ?_) (fun h1 => ?_)
  · refine g_vret (u := σ) C T dX7_turnSpot_44 ?_
    exact ⟨rfl, ⟨fun _ _ _ => rfl, fun _ _ => rfl⟩, Or.inl ⟨h1, rfl⟩⟩
  · refine g_aload_n 0 C rfl dX7_turnSpot_9 rfl ?_
    refine g_aload_n 0 C rfl dX7_turnSpot_10 rfl ?_
    refine gf_X7_91 C dX7_turnSpot_11 ?_
    refine g_lneg C dX7_turnSpot_14 ?_
    refine pf_X7_91 C dX7_turnSpot_15 ?_
    refine g_iconst C dX7_turnSpot_18 ?_
    refine g_istore_n (lv' := [(0, .ref (q 0)), (1, .int (iZ 0))]) [1, 0] C dX7_turnSpot_19 rfl (by decide) rfl ?_
    refine g_iload_n 1 C rfl dX7_turnSpot_20 rfl ?_
    refine g_iconst C dX7_turnSpot_21 ?_
    refine g_icmp_ge 44 C (by unfold I32; omega) (by unfold I32; omega) dX7_turnSpot_22 (by decide) (fun h2 => ?_) (fun h2 => ?_)
    · exact absurd h2 (by first | decide | omega)
    refine g_aload_n 0 C rfl dX7_turnSpot_25 rfl ?_
    refine gf_X7_39 C dX7_turnSpot_26 ?_
    refine g_iload_n 1 C rfl dX7_turnSpot_29 rfl ?_
    refine g_aload_n 0 C rfl dX7_turnSpot_30 rfl ?_
    refine gf_X7_39 C dX7_turnSpot_31 ?_
    refine g_iload_n 1 C rfl dX7_turnSpot_34 rfl ?_
    refine g_lald C 9 0 (by decide) (fun _ => rfl) (by omega) (by omega) (by decide) dX7_turnSpot_35 ?_
    rw [show (up σ 0 11 (-(σ 0 11))) 9 0 = σ 9 0 from rfl]
    refine g_lneg C dX7_turnSpot_36 ?_
    refine g_last C 9 0 (by decide) (fun _ => rfl) (by omega) (by omega) (by decide) dX7_turnSpot_37 ?_
    refine g_iinc (lv' := [(0, .ref (q 0)), (1, .int (iZ 1))]) 1 [1, 0] C rfl dX7_turnSpot_38 (by decide) rfl ?_
    refine g_goto 20 C dX7_turnSpot_41 (by decide) ?_
    refine g_iload_n 1 C rfl dX7_turnSpot_20 rfl ?_
    refine g_iconst C dX7_turnSpot_21 ?_
    refine g_icmp_ge 44 C (by unfold I32; omega) (by unfold I32; omega) dX7_turnSpot_22 (by decide) (fun h3 => ?_) (fun h3 => ?_)
    · exact absurd h3 (by first | decide | omega)
    refine g_aload_n 0 C rfl dX7_turnSpot_25 rfl ?_
    refine gf_X7_39 C dX7_turnSpot_26 ?_
    refine g_iload_n 1 C rfl dX7_turnSpot_29 rfl ?_
    refine g_aload_n 0 C rfl dX7_turnSpot_30 rfl ?_
    refine gf_X7_39 C dX7_turnSpot_31 ?_
    refine g_iload_n 1 C rfl dX7_turnSpot_34 rfl ?_
    refine g_lald C 9 1 (by decide) (fun _ => rfl) (by omega) (by omega) (by decide) dX7_turnSpot_35 ?_
    rw [show (up (up σ 0 11 (-(σ 0 11))) 9 0 (-(σ 9 0))) 9 1 = σ 9 1 from rfl]
    refine g_lneg C dX7_turnSpot_36 ?_
    refine g_last C 9 1 (by decide) (fun _ => rfl) (by omega) (by omega) (by decide) dX7_turnSpot_37 ?_
    refine g_iinc (lv' := [(0, .ref (q 0)), (1, .int (iZ 2))]) 1 [1, 0] C rfl dX7_turnSpot_38 (by decide) rfl ?_
    refine g_goto 20 C dX7_turnSpot_41 (by decide) ?_
    refine g_iload_n 1 C rfl dX7_turnSpot_20 rfl ?_
    refine g_iconst C dX7_turnSpot_21 ?_
    refine g_icmp_ge 44 C (by unfold I32; omega) (by unfold I32; omega) dX7_turnSpot_22 (by decide) (fun h4 => ?_) (fun h4 => ?_)
    · exact absurd h4 (by first | decide | omega)
    refine g_aload_n 0 C rfl dX7_turnSpot_25 rfl ?_
    refine gf_X7_39 C dX7_turnSpot_26 ?_
    refine g_iload_n 1 C rfl dX7_turnSpot_29 rfl ?_
    refine g_aload_n 0 C rfl dX7_turnSpot_30 rfl ?_
    refine gf_X7_39 C dX7_turnSpot_31 ?_
    refine g_iload_n 1 C rfl dX7_turnSpot_34 rfl ?_
    refine g_lald C 9 2 (by decide) (fun _ => rfl) (by omega) (by omega) (by decide) dX7_turnSpot_35 ?_
    rw [show (up (up (up σ 0 11 (-(σ 0 11))) 9 0 (-(σ 9 0))) 9 1 (-(σ 9 1))) 9 2 = σ 9 2 from rfl]
    refine g_lneg C dX7_turnSpot_36 ?_
    refine g_last C 9 2 (by decide) (fun _ => rfl) (by omega) (by omega) (by decide) dX7_turnSpot_37 ?_
    refine g_iinc (lv' := [(0, .ref (q 0)), (1, .int (iZ 3))]) 1 [1, 0] C rfl dX7_turnSpot_38 (by decide) rfl ?_
    refine g_goto 20 C dX7_turnSpot_41 (by decide) ?_
    refine g_iload_n 1 C rfl dX7_turnSpot_20 rfl ?_
    refine g_iconst C dX7_turnSpot_21 ?_
    refine g_icmp_ge 44 C (by unfold I32; omega) (by unfold I32; omega) dX7_turnSpot_22 (by decide) (fun h5 => ?_) (fun h5 => ?_)
    · exact absurd h5 (by first | decide | omega)
    refine g_aload_n 0 C rfl dX7_turnSpot_25 rfl ?_
    refine gf_X7_39 C dX7_turnSpot_26 ?_
    refine g_iload_n 1 C rfl dX7_turnSpot_29 rfl ?_
    refine g_aload_n 0 C rfl dX7_turnSpot_30 rfl ?_
    refine gf_X7_39 C dX7_turnSpot_31 ?_
    refine g_iload_n 1 C rfl dX7_turnSpot_34 rfl ?_
    refine g_lald C 9 3 (by decide) (fun _ => rfl) (by omega) (by omega) (by decide) dX7_turnSpot_35 ?_
    rw [show (up (up (up (up σ 0 11 (-(σ 0 11))) 9 0 (-(σ 9 0))) 9 1 (-(σ 9 1))) 9 2 (-(σ 9 2))) 9 3 = σ 9 3 from rfl]
    refine g_lneg C dX7_turnSpot_36 ?_
    refine g_last C 9 3 (by decide) (fun _ => rfl) (by omega) (by omega) (by decide) dX7_turnSpot_37 ?_
    refine g_iinc (lv' := [(0, .ref (q 0)), (1, .int (iZ 4))]) 1 [1, 0] C rfl dX7_turnSpot_38 (by decide) rfl ?_
    refine g_goto 20 C dX7_turnSpot_41 (by decide) ?_
    refine g_iload_n 1 C rfl dX7_turnSpot_20 rfl ?_
    refine g_iconst C dX7_turnSpot_21 ?_
    refine g_icmp_ge 44 C (by unfold I32; omega) (by unfold I32; omega) dX7_turnSpot_22 (by decide) (fun h6 => ?_) (fun h6 => ?_)
    · refine g_vret (u := (up (up (up (up (up σ 0 11 (-(σ 0 11))) 9 0 (-(σ 9 0))) 9 1 (-(σ 9 1))) 9 2 (-(σ 9 2))) 9 3 (-(σ 9 3)))) C T dX7_turnSpot_44 ?_
      refine ⟨rfl, ⟨fun c h8 h9 => by simp [up, h8, h9], fun j h9 => by simp [up, updI, h9]⟩, Or.inr ⟨h1, rfl, fun c hc => ?_⟩⟩
      rcases (show c = 0 ∨ c = 1 ∨ c = 2 ∨ c = 3 by omega) with rfl | rfl | rfl | rfl <;> rfl
    · exact absurd h6 (by first | decide | omega)
def Keeps (σ : Nat → Nat → Int) (n : Nat) : Prop := ∀ r, r < n → rwf σ r 4 * σ 0 11 ≤ lin σ r
set_option maxHeartbeats 4000000 in
set_option maxRecDepth 20000 in
theorem lp_X7_keepsAll {g : Gx} {K : Kx} {q : Nat → Nat} {σ : Nat → Nat → Int} {nr : Nat} (hn : σ 0 9 = (nr : Int)) (hn6 : nr ≤ 16) (hB : ∀ r, r < nr → I64 (lin σ r) ∧ I64 (rwf σ r 4 * σ 0 11)) (C : CX g K cX7_keepsAll RX7 4 0 0) (T : RT g K (some .boolean) (fun _ : Unit => WM g q σ) (pI (fun z _ => z = bZ (Keeps σ nr)))) : ∀ (d r : Nat), r ≤ nr → nr < r + d → (∀ r', r' < r → rwf σ r' 4 * σ 0 11 ≤ lin σ r') → GJ g K (WM g q σ) 2 [(0, .ref (q 0)), (1, .int (iZ (r : Int)))] [] := by
  intro d
  induction d with
  | zero => intro r h1 h2; omega
  | succ d ih =>
    intro r hr hd hI
    refine g_iload_n 1 C rfl dX7_keepsAll_2 rfl ?_
    refine g_aload_n 0 C rfl dX7_keepsAll_3 rfl ?_
    refine gf_X7_88 C dX7_keepsAll_4 ?_
    rw [show σ 0 9 = (nr : Int) from hn]
    refine g_icmp_ge 108 C (by unfold I32; omega) (by unfold I32; omega) dX7_keepsAll_7 (by decide) (fun h1 => ?_) (fun h1 => ?_)
    · refine g_iconst C dX7_keepsAll_108 ?_
      refine g_zret (u := ()) C T dX7_keepsAll_109 (by omega) ?_
      refine ⟨_, rfl, (bZ_t (fun r9 h9 => hI r9 (by omega))).symm⟩
    · refine g_aload_n 0 C rfl dX7_keepsAll_10 rfl ?_
      refine gf_X7_35 C dX7_keepsAll_11 ?_
      refine g_iconst C dX7_keepsAll_14 ?_
      refine g_iload_n 1 C rfl dX7_keepsAll_15 rfl ?_
      refine g_imul C dX7_keepsAll_16 ?_
      refine g_lald C 8 (5 * r) (by decide) (fun _ => rfl) (by omega) (by omega) (by decide) dX7_keepsAll_17 ?_
      refine g_aload_n 0 C rfl dX7_keepsAll_18 rfl ?_
      refine gf_X7_39 C dX7_keepsAll_19 ?_
      refine g_iconst C dX7_keepsAll_22 ?_
      refine g_lald C 9 0 (by decide) (fun _ => rfl) (by omega) (by omega) (by decide) dX7_keepsAll_23 ?_
      refine g_lmul C dX7_keepsAll_24 ?_
      refine g_aload_n 0 C rfl dX7_keepsAll_25 rfl ?_
      refine gf_X7_35 C dX7_keepsAll_26 ?_
      refine g_iconst C dX7_keepsAll_29 ?_
      refine g_iload_n 1 C rfl dX7_keepsAll_30 rfl ?_
      refine g_imul C dX7_keepsAll_31 ?_
      refine g_iconst C dX7_keepsAll_32 ?_
      refine g_iadd C dX7_keepsAll_33 ?_
      refine g_lald C 8 ((5 * r) + 1) (by decide) (fun _ => rfl) (by omega) (by omega) (by decide) dX7_keepsAll_34 ?_
      refine g_aload_n 0 C rfl dX7_keepsAll_35 rfl ?_
      refine gf_X7_39 C dX7_keepsAll_36 ?_
      refine g_iconst C dX7_keepsAll_39 ?_
      refine g_lald C 9 1 (by decide) (fun _ => rfl) (by omega) (by omega) (by decide) dX7_keepsAll_40 ?_
      refine g_lmul C dX7_keepsAll_41 ?_
      refine g_ladd C dX7_keepsAll_42 ?_
      refine g_aload_n 0 C rfl dX7_keepsAll_43 rfl ?_
      refine gf_X7_35 C dX7_keepsAll_44 ?_
      refine g_iconst C dX7_keepsAll_47 ?_
      refine g_iload_n 1 C rfl dX7_keepsAll_48 rfl ?_
      refine g_imul C dX7_keepsAll_49 ?_
      refine g_iconst C dX7_keepsAll_50 ?_
      refine g_iadd C dX7_keepsAll_51 ?_
      refine g_lald C 8 ((5 * r) + 2) (by decide) (fun _ => rfl) (by omega) (by omega) (by decide) dX7_keepsAll_52 ?_
      refine g_aload_n 0 C rfl dX7_keepsAll_53 rfl ?_
      refine gf_X7_39 C dX7_keepsAll_54 ?_
      refine g_iconst C dX7_keepsAll_57 ?_
      refine g_lald C 9 2 (by decide) (fun _ => rfl) (by omega) (by omega) (by decide) dX7_keepsAll_58 ?_
      refine g_lmul C dX7_keepsAll_59 ?_
      refine g_ladd C dX7_keepsAll_60 ?_
      refine g_aload_n 0 C rfl dX7_keepsAll_61 rfl ?_
      refine gf_X7_35 C dX7_keepsAll_62 ?_
      refine g_iconst C dX7_keepsAll_65 ?_
      refine g_iload_n 1 C rfl dX7_keepsAll_66 rfl ?_
      refine g_imul C dX7_keepsAll_67 ?_
      refine g_iconst C dX7_keepsAll_68 ?_
      refine g_iadd C dX7_keepsAll_69 ?_
      refine g_lald C 8 ((5 * r) + 3) (by decide) (fun _ => rfl) (by omega) (by omega) (by decide) dX7_keepsAll_70 ?_
      refine g_aload_n 0 C rfl dX7_keepsAll_71 rfl ?_
      refine gf_X7_39 C dX7_keepsAll_72 ?_
      refine g_iconst C dX7_keepsAll_75 ?_
      refine g_lald C 9 3 (by decide) (fun _ => rfl) (by omega) (by omega) (by decide) dX7_keepsAll_76 ?_
      refine g_lmul C dX7_keepsAll_77 ?_
      refine g_ladd C dX7_keepsAll_78 ?_
      refine g_lname (fun w2 ew2 => ?_)
      refine g_lstore_n (lv' := [(0, .ref (q 0)), (1, .int (iZ (r : Int))), (2, .long (lZ w2))]) [1, 2, 0] C dX7_keepsAll_79 rfl (by decide) rfl ?_
      refine g_lload_n 2 C rfl dX7_keepsAll_80 rfl ?_
      refine g_aload_n 0 C rfl dX7_keepsAll_81 rfl ?_
      refine gf_X7_35 C dX7_keepsAll_82 ?_
      refine g_iconst C dX7_keepsAll_85 ?_
      refine g_iload_n 1 C rfl dX7_keepsAll_86 rfl ?_
      refine g_imul C dX7_keepsAll_87 ?_
      refine g_iconst C dX7_keepsAll_88 ?_
      refine g_iadd C dX7_keepsAll_89 ?_
      refine g_lald C 8 ((5 * r) + 4) (by decide) (fun _ => rfl) (by omega) (by omega) (by decide) dX7_keepsAll_90 ?_
      refine g_aload_n 0 C rfl dX7_keepsAll_91 rfl ?_
      refine gf_X7_91 C dX7_keepsAll_92 ?_
      refine g_lmul C dX7_keepsAll_95 ?_
      refine g_lcmp_ge 102 C (by subst ew2; exact (hB r (by omega)).1) ((hB r (by omega)).2) dX7_keepsAll_96 dX7_keepsAll_97 (by decide) (fun h3 => ?_) (fun h3 => ?_)
      · refine g_iinc (lv' := [(0, .ref (q 0)), (1, .int (iZ ((r : Int) + 1))), (2, .long (lZ w2))]) 1 [1, 0, 2] C rfl dX7_keepsAll_102 (by decide) rfl ?_
        refine g_goto 2 C dX7_keepsAll_105 (by decide) ?_
        refine g_lv [0, 1] rfl ?_
        refine ih (r + 1) (by omega) (by omega) (fun r9 h9 => ?_)
        rcases Nat.lt_or_ge r9 r with h8 | h8
        · exact hI r9 h8
        · obtain rfl : r9 = r := by omega
          subst ew2; exact h3
      · refine g_iconst C dX7_keepsAll_100 ?_
        refine g_zret (u := ()) C T dX7_keepsAll_101 (by omega) ?_
        refine ⟨_, rfl, (bZ_f (fun h9 => ?_)).symm⟩
        have h8 := h9 r (by omega)
        subst ew2
        exact absurd h8 (Int.not_le.mpr h3)
set_option maxHeartbeats 4000000 in
set_option maxRecDepth 20000 in
theorem c_X7_keepsAll (g : Gx) {q : Nat → Nat} {σ : Nat → Nat → Int} {nr : Nat} (hn : σ 0 9 = (nr : Int)) (hn6 : nr ≤ 16) (hB : ∀ r, r < nr → I64 (lin σ r) ∧ I64 (rwf σ r 4 * σ 0 11)) : MC g yX7_keepsAll cX7_keepsAll 4 ((some .boolean)) 0 0 (WM g q σ) [.ref (q 0)] (fun _ : Unit => WM g q σ) (pI (fun z _ => z = bZ (Keeps σ nr))) := by
  refine MC_intro (own := RX7) rfl (by decide) (Nat.le_of_ble_eq_true rfl) (fun K C T => ?_)
  show GJ g K (WM g q σ) 0 [(0, .ref (q 0))] []
  refine g_iconst C dX7_keepsAll_0 ?_
  refine g_istore_n (lv' := [(0, .ref (q 0)), (1, .int (iZ 0))]) [1, 0] C dX7_keepsAll_1 rfl (by decide) rfl ?_
  exact lp_X7_keepsAll hn hn6 hB C T (nr + 1) 0 (by omega) (by omega) (fun r9 h9 => absurd h9 (by omega))
def rE (x l m : Nat → Int) (L : Int) (i c : Nat) : Int := match c with
  | 0 => L - x i
  | 1 => x i
  | 2 => m i
  | 3 => 0
  | _ => L * l i
def rO (x u m : Nat → Int) (L : Int) (i c : Nat) : Int := match c with
  | 0 => -(L - x i)
  | 1 => -(x i)
  | 2 => -(m i)
  | 3 => 0
  | _ => -L * u i
def tE (x l u m : Nat → Int) (L : Int) (i c : Nat) : Int := match c with
  | 0 => 2 * (L - x i)
  | 1 => 2 * x i
  | 2 => 2 * m i
  | 3 => L * (u i - l i)
  | _ => L * (u i + l i)
def tO (x l u m : Nat → Int) (L : Int) (i c : Nat) : Int := match c with
  | 0 => (-2) * (L - x i)
  | 1 => (-2) * x i
  | 2 => (-2) * m i
  | 3 => L * (u i - l i)
  | _ => -(L * (u i + l i))
def moM (σ : Nat → Nat → Int) (n i : Nat) : Int := mosum (σ 1) (σ 4) (σ 1 n) i n
/-- nothing but 'row' and 'rows' -/
def FrR (σ u : Nat → Nat → Int) : Prop := (∀ c, c ≠ 0 → c ≠ 8 → u c = σ c) ∧ ∀ j, j ≠ 9 → u 0 j = σ 0 j
def rowsUp (b : Bool) (σ τ : Nat → Nat → Int) (n i : Nat) : Prop := ∀ i', i' < i → ∀ c, c < 5 → rwf τ (2 * i') c = (if b then tE (σ 1) (σ 2) (σ 3) (moM σ n) (σ 1 n) i' c else rE (σ 1) (σ 2) (moM σ n) (σ 1 n) i' c) ∧ rwf τ (2 * i' + 1) c = (if b then tO (σ 1) (σ 2) (σ 3) (moM σ n) (σ 1 n) i' c else rO (σ 1) (σ 3) (moM σ n) (σ 1 n) i' c)
def rowsOK (b : Bool) (σ τ : Nat → Nat → Int) (n : Nat) : Prop := FrR σ τ ∧ rowsUp b σ τ n (n + 1) ∧ (∀ c, c < 5 → rwf τ (2 * n + 2) c = if c = 2 then 1 else 0) ∧ (b = true → ∀ c, c < 5 → rwf τ (2 * n + 3) c = if c = 3 then 1 else 0) ∧ τ 0 9 = 2 * (n : Int) + (if b then 4 else 3)
def sel5 (a b k t z : Int) (c : Nat) : Int := match c with
  | 0 => a
  | 1 => b
  | 2 => k
  | 3 => t
  | _ => z
/-- five numbers laid as a row -/
def put5 (σ : Nat → Nat → Int) (r : Nat) (a b k t z : Int) : Nat → Nat → Int := up (up (up (up (up σ 8 (5 * r) a) 8 (5 * r + 1) b) 8 (5 * r + 2) k) 8 (5 * r + 3) t) 8 (5 * r + 4) z
theorem put5_o {σ : Nat → Nat → Int} {r : Nat} {a b k t z : Int} {c : Nat} (h : c ≠ 8) : put5 σ r a b k t z c = σ c := by simp [put5, up, h]
theorem put5_ne {σ : Nat → Nat → Int} {r r' : Nat} {a b k t z : Int} {c : Nat} (hc : c < 5) (h : r' ≠ r) : rwf (put5 σ r a b k t z) r' c = rwf σ r' c := by
  unfold rwf put5
  rw [up_k (by omega), up_k (by omega), up_k (by omega), up_k (by omega), up_k (by omega)]
theorem put5_at {σ : Nat → Nat → Int} {r : Nat} {a b k t z : Int} {c : Nat} (hc : c < 5) : rwf (put5 σ r a b k t z) r c = sel5 a b k t z c := by
  unfold rwf put5
  rcases (show c = 0 ∨ c = 1 ∨ c = 2 ∨ c = 3 ∨ c = 4 by omega) with rfl | rfl | rfl | rfl | rfl
  · rw [up_k (by omega), up_k (by omega), up_k (by omega), up_k (by omega)]; exact up_s _ _ _ _
  · rw [up_k (by omega), up_k (by omega), up_k (by omega)]; exact up_s _ _ _ _
  · rw [up_k (by omega), up_k (by omega)]; exact up_s _ _ _ _
  · rw [up_k (by omega)]; exact up_s _ _ _ _
  · exact up_s _ _ _ _
theorem rows_step {b : Bool} {σ τ : Nat → Nat → Int} {n i : Nat} {a1 a2 a3 a4 a5 b1 b2 b3 b4 b5 : Int} (h : rowsUp b σ τ n i)
    (hE : ∀ c, c < 5 → sel5 a1 a2 a3 a4 a5 c = (if b then tE (σ 1) (σ 2) (σ 3) (moM σ n) (σ 1 n) i c else rE (σ 1) (σ 2) (moM σ n) (σ 1 n) i c))
    (hO : ∀ c, c < 5 → sel5 b1 b2 b3 b4 b5 c = (if b then tO (σ 1) (σ 2) (σ 3) (moM σ n) (σ 1 n) i c else rO (σ 1) (σ 3) (moM σ n) (σ 1 n) i c)) :
    rowsUp b σ (put5 (put5 τ (2 * i) a1 a2 a3 a4 a5) (2 * i + 1) b1 b2 b3 b4 b5) n (i + 1) := by
  intro i' hi' c hc
  rcases Nat.lt_or_ge i' i with h1 | h1
  · rw [put5_ne hc (by omega), put5_ne hc (by omega), put5_ne hc (by omega), put5_ne hc (by omega)]
    exact h i' h1 c hc
  · obtain rfl : i' = i := by omega
    rw [put5_ne hc (by omega), put5_at hc, put5_at hc]
    exact ⟨hE c hc, hO c hc⟩
theorem FrR.step {σ τ : Nat → Nat → Int} {r : Nat} {a b k t z : Int} (h : FrR σ τ) : FrR σ (put5 τ r a b k t z) := ⟨fun c h0 h8 => by rw [put5_o h8]; exact h.1 c h0 h8, fun j h9 => by rw [put5_o (by decide)]; exact h.2 j h9⟩
/-- what a model's state holds -/
def AM (σ : Nat → Nat → Int) (n : Nat) : Prop := σ 0 0 = (n : Int) ∧ 2 ≤ n ∧ n ≤ 6 ∧ σ 1 0 = 0 ∧ (∀ i, i < n → σ 1 i < σ 1 (i + 1)) ∧ σ 1 n ≤ 20 ∧ (∀ i, i ≤ n → -20 ≤ σ 2 i ∧ σ 2 i ≤ σ 3 i ∧ σ 3 i ≤ 20) ∧ ∀ i, i ≤ n → 0 ≤ σ 4 i ∧ σ 4 i ≤ 20
theorem up09 {σ τ : Nat → Nat → Int} {z : Int} (h : FrR σ τ) : FrR σ (up τ 0 9 z) := ⟨fun c h0 h8 => by rw [up_c h0]; exact h.1 c h0 h8, fun j h9 => by rw [up_k h9]; exact h.2 j h9⟩
theorem rw09 {τ : Nat → Nat → Int} {z : Int} {r c : Nat} : rwf (up τ 0 9 z) r c = rwf τ r c := by
  unfold rwf
  rw [up_c (by decide)]
theorem ru09 {b : Bool} {σ τ : Nat → Nat → Int} {z : Int} {n i : Nat} (h : rowsUp b σ τ n i) : rowsUp b σ (up τ 0 9 z) n i := fun i' h1 c h2 => by
  rw [rw09, rw09]
  exact h i' h1 c h2
theorem rup5 {b : Bool} {σ τ : Nat → Nat → Int} {n r : Nat} {a1 a2 a3 a4 a5 : Int} (hr : 2 * n + 2 ≤ r) (h : rowsUp b σ τ n (n + 1)) : rowsUp b σ (put5 τ r a1 a2 a3 a4 a5) n (n + 1) := fun i' h1 c h2 => by
  rw [put5_ne h2 (by omega), put5_ne h2 (by omega)]
  exact h i' h1 c h2
theorem fr_endF {σ τ : Nat → Nat → Int} {n : Nat} {z : Int} (hF : FrR σ τ) (hU : rowsUp false σ τ n (n + 1)) : pV (fun u => rowsOK false σ u n) none (up (put5 (up τ 0 9 z) (2 * n + 2) 0 0 1 0 0) 0 9 (2 * (n : Int) + 2 + 1)) := by
  refine ⟨rfl, up09 (up09 hF).step, ru09 (rup5 (Nat.le_refl _) (ru09 hU)), fun c hc => ?_, (fun h => Bool.noConfusion h), ?_⟩
  · rw [rw09, put5_at hc]
    rcases (show c = 0 ∨ c = 1 ∨ c = 2 ∨ c = 3 ∨ c = 4 by omega) with rfl | rfl | rfl | rfl | rfl <;> rfl
  · rw [up_s]; simp; omega
theorem fr_endT {σ τ : Nat → Nat → Int} {n : Nat} {z z2 : Int} (hF : FrR σ τ) (hU : rowsUp true σ τ n (n + 1)) : pV (fun u => rowsOK true σ u n) none (up (put5 (up (put5 (up τ 0 9 z) (2 * n + 2) 0 0 1 0 0) 0 9 z2) (2 * n + 2 + 1) 0 0 0 1 0) 0 9 (2 * (n : Int) + 2 + 1 + 1)) := by
  refine ⟨rfl, up09 (up09 (up09 hF).step).step, ru09 (rup5 (by omega) (ru09 (rup5 (Nat.le_refl _) (ru09 hU)))), fun c hc => ?_, fun _ c hc => ?_, ?_⟩
  · rw [rw09, put5_ne hc (by omega), rw09, put5_at hc]
    rcases (show c = 0 ∨ c = 1 ∨ c = 2 ∨ c = 3 ∨ c = 4 by omega) with rfl | rfl | rfl | rfl | rfl <;> rfl
  · rw [rw09, put5_at hc]
    rcases (show c = 0 ∨ c = 1 ∨ c = 2 ∨ c = 3 ∨ c = 4 by omega) with rfl | rfl | rfl | rfl | rfl <;> rfl
  · rw [up_s]; simp; omega
set_option maxHeartbeats 4000000 in
set_option maxRecDepth 20000 in
theorem lp_X7_findRowsF {g : Gx} {K : Kx} {q : Nat → Nat} {σ : Nat → Nat → Int} {nn : Nat} (hn : σ 0 0 = (nn : Int)) (hn2 : 2 ≤ nn) (hn6 : nn ≤ 6) (hx : ∀ i, i ≤ nn → 0 ≤ σ 1 i ∧ σ 1 i ≤ 20) (hl : ∀ i, i ≤ nn → -20 ≤ σ 2 i ∧ σ 2 i ≤ σ 3 i ∧ σ 3 i ≤ 20) (hm : ∀ i, i ≤ nn → I32 (moM σ nn i)) (C : CX g K cX7_findRows RX7 15 1 31) (T : RT g K none (fun u => WM g q u) (pV (fun u => rowsOK false σ u nn))) : ∀ (d i : Nat), i ≤ nn + 1 → nn + 1 < i + d → ∀ τ : Nat → Nat → Int, FrR σ τ → rowsUp false σ τ nn i → GJ g K (WM g q τ) 14 [(0, .ref (q 0)), (1, .int (iZ 0)), (2, .long (lZ (σ 1 nn))), (4, .int (iZ (i : Int)))] [] := by
  intro d
  induction d with
  | zero => intro i h1 h2; omega
  | succ d ih =>
    intro i hi hd τ hF hU
    refine g_iload 3 C rfl dX7_findRows_14 ?_
    refine g_aload_n 0 C rfl dX7_findRows_16 rfl ?_
    refine gf_X7_7 C dX7_findRows_17 ?_
    rw [show τ 0 0 = (nn : Int) from ((hF.2 0 (by decide)).trans hn)]
    refine g_icmp_gt 226 C (by unfold I32; omega) (by unfold I32; omega) dX7_findRows_20 (by decide) (fun h1 => ?_) (fun h1 => ?_)
    · refine g_aload_n 0 C rfl dX7_findRows_226 rfl ?_
      refine g_iconst C dX7_findRows_227 ?_
      refine g_aload_n 0 C rfl dX7_findRows_228 rfl ?_
      refine gf_X7_7 C dX7_findRows_229 ?_
      rw [show τ 0 0 = (nn : Int) from ((hF.2 0 (by decide)).trans hn)]
      refine g_imul C dX7_findRows_232 ?_
      refine g_iconst C dX7_findRows_233 ?_
      refine g_iadd C dX7_findRows_234 ?_
      refine pf_X7_88 C dX7_findRows_235 ?_
      refine g_aload_n 0 C rfl dX7_findRows_238 rfl ?_
      refine g_aload_n 0 C rfl dX7_findRows_239 rfl ?_
      refine gf_X7_88 C dX7_findRows_240 ?_
      rw [show (up τ 0 9 ((2 * (nn : Int)) + 2)) 0 9 = (2 * (nn : Int)) + 2 from up_s _ _ _ _]
      refine g_lconst 0 C dX7_findRows_243 (by decide) ?_
      refine g_lconst 0 C dX7_findRows_244 (by decide) ?_
      refine g_lconst 1 C dX7_findRows_245 (by decide) ?_
      refine g_lconst 0 C dX7_findRows_246 (by decide) ?_
      refine g_lconst 0 C dX7_findRows_247 (by decide) ?_
      refine g_callV C (c_X7_setRow g (r := (2 * nn) + 2) (by omega)) gv_X7_82 yd_X7_setRow ⟨by decide, by decide⟩ 0 7 (WD_get (by decide)) rfl rfl (Nat.le_of_ble_eq_true rfl) dX7_findRows_248 ?_
      rintro _ rfl
      change GJ g K (WM g q (put5 (up τ 0 9 ((2 * (nn : Int)) + 2)) ((2 * nn) + 2) 0 0 1 0 0)) _ _ _
      refine g_aload_n 0 C rfl dX7_findRows_251 rfl ?_
      refine g_dup C dX7_findRows_252 rfl ?_
      refine gf_X7_88 C dX7_findRows_253 ?_
      rw [show (put5 (up τ 0 9 ((2 * (nn : Int)) + 2)) ((2 * nn) + 2) 0 0 1 0 0) 0 9 = (2 * (nn : Int)) + 2 from rfl]
      refine g_iconst C dX7_findRows_256 ?_
      refine g_iadd C dX7_findRows_257 ?_
      refine pf_X7_88 C dX7_findRows_258 ?_
      refine g_iload_n 1 C rfl dX7_findRows_261 rfl ?_
      refine g_if_eq 288 C (by unfold I32; omega) dX7_findRows_262 (by decide) (fun h2 => ?_) (fun h2 => ?_)
      · refine g_vret (u := (up (put5 (up τ 0 9 ((2 * (nn : Int)) + 2)) ((2 * nn) + 2) 0 0 1 0 0) 0 9 (((2 * (nn : Int)) + 2) + 1))) C T dX7_findRows_288 ?_
        have e9 : i = nn + 1 := by omega
        rw [e9] at hU
        exact fr_endF hF hU
      · exact absurd h2 (by first | decide | omega)
    · refine g_lload_n 2 C rfl dX7_findRows_23 rfl ?_
      refine g_aload_n 0 C rfl dX7_findRows_24 rfl ?_
      refine gf_X7_13 C dX7_findRows_25 ?_
      refine g_iload 3 C rfl dX7_findRows_28 ?_
      refine g_iald C 1 i (by decide) (fun _ => rfl) (by omega) (by omega) (by decide) dX7_findRows_30 ?_
      rw [show τ 1 i = σ 1 i from congrFun (hF.1 1 (by decide) (by decide)) _]
      refine g_i2l C dX7_findRows_31 (by have h5 := hx i (by omega); have h6 := hl i (by omega); have h7 := hx nn (by omega); unfold I32; omega) ?_
      refine g_lsub C dX7_findRows_32 ?_
      refine g_lname (fun w3 ew3 => ?_)
      refine g_lstore (lv' := [(0, .ref (q 0)), (1, .int (iZ 0)), (2, .long (lZ (σ 1 nn))), (4, .int (iZ (i : Int))), (5, .long (lZ w3))]) [1, 2, 3, 4, 0] C dX7_findRows_33 (by decide) rfl ?_
      refine g_aload_n 0 C rfl dX7_findRows_35 rfl ?_
      refine gf_X7_13 C dX7_findRows_36 ?_
      refine g_iload 3 C rfl dX7_findRows_39 ?_
      refine g_iald C 1 i (by decide) (fun _ => rfl) (by omega) (by omega) (by decide) dX7_findRows_41 ?_
      rw [show τ 1 i = σ 1 i from congrFun (hF.1 1 (by decide) (by decide)) _]
      refine g_i2l C dX7_findRows_42 (by have h5 := hx i (by omega); have h6 := hl i (by omega); have h7 := hx nn (by omega); unfold I32; omega) ?_
      refine g_lname (fun w4 ew4 => ?_)
      refine g_lstore (lv' := [(0, .ref (q 0)), (1, .int (iZ 0)), (2, .long (lZ (σ 1 nn))), (4, .int (iZ (i : Int))), (5, .long (lZ w3)), (7, .long (lZ w4))]) [1, 2, 3, 4, 5, 0] C dX7_findRows_43 (by decide) rfl ?_
      refine g_aload_n 0 C rfl dX7_findRows_45 rfl ?_
      refine g_iload 3 C rfl dX7_findRows_46 ?_
      refine g_callI C (c_X7_momentAt g (σ := τ) (nn := nn) (i := i) ((hF.2 0 (by decide)).trans hn) hn2 hn6 (by omega)) gv_X7_78 yd_X7_momentAt ⟨by decide, by decide⟩ 0 7 (WD_get (by decide)) rfl rfl (Nat.le_of_ble_eq_true rfl) dX7_findRows_48 ?_
      rintro _ _ rfl
      rw [show mosum (τ 1) (τ 4) (τ 1 nn) i nn = moM σ nn i from by rw [hF.1 1 (by decide) (by decide), hF.1 4 (by decide) (by decide)]; rfl]
      refine g_i2l C dX7_findRows_51 (hm i (by omega)) ?_
      refine g_lname (fun w5 ew5 => ?_)
      refine g_lstore (lv' := [(0, .ref (q 0)), (1, .int (iZ 0)), (2, .long (lZ (σ 1 nn))), (4, .int (iZ (i : Int))), (5, .long (lZ w3)), (7, .long (lZ w4)), (9, .long (lZ w5))]) [1, 2, 3, 4, 5, 6, 0] C dX7_findRows_52 (by decide) rfl ?_
      refine g_iload_n 1 C rfl dX7_findRows_54 rfl ?_
      refine g_if_eq 164 C (by unfold I32; omega) dX7_findRows_55 (by decide) (fun h6 => ?_) (fun h6 => ?_)
      · refine g_aload_n 0 C rfl dX7_findRows_164 rfl ?_
        refine g_iconst C dX7_findRows_165 ?_
        refine g_iload 3 C rfl dX7_findRows_166 ?_
        refine g_imul C dX7_findRows_168 ?_
        refine g_lload 4 C rfl dX7_findRows_169 ?_
        refine g_lload 5 C rfl dX7_findRows_171 ?_
        refine g_lload 6 C rfl dX7_findRows_173 ?_
        refine g_lconst 0 C dX7_findRows_175 (by decide) ?_
        refine g_lload_n 2 C rfl dX7_findRows_176 rfl ?_
        refine g_aload_n 0 C rfl dX7_findRows_177 rfl ?_
        refine gf_X7_17 C dX7_findRows_178 ?_
        refine g_iload 3 C rfl dX7_findRows_181 ?_
        refine g_iald C 2 i (by decide) (fun _ => rfl) (by omega) (by omega) (by decide) dX7_findRows_183 ?_
        rw [show τ 2 i = σ 2 i from congrFun (hF.1 2 (by decide) (by decide)) _]
        refine g_i2l C dX7_findRows_184 (by have h5 := hx i (by omega); have h6 := hl i (by omega); have h7 := hx nn (by omega); unfold I32; omega) ?_
        refine g_lmul C dX7_findRows_185 ?_
        refine g_callV C (c_X7_setRow g (r := 2 * i) (by omega)) gv_X7_82 yd_X7_setRow ⟨by decide, by decide⟩ 0 7 (WD_get (by decide)) rfl rfl (Nat.le_of_ble_eq_true rfl) dX7_findRows_186 ?_
        rintro _ rfl
        change GJ g K (WM g q (put5 τ (2 * i) w3 w4 w5 0 ((σ 1 nn) * (σ 2 i)))) _ _ _
        refine g_aload_n 0 C rfl dX7_findRows_189 rfl ?_
        refine g_iconst C dX7_findRows_190 ?_
        refine g_iload 3 C rfl dX7_findRows_191 ?_
        refine g_imul C dX7_findRows_193 ?_
        refine g_iconst C dX7_findRows_194 ?_
        refine g_iadd C dX7_findRows_195 ?_
        refine g_lload 4 C rfl dX7_findRows_196 ?_
        refine g_lneg C dX7_findRows_198 ?_
        refine g_lload 5 C rfl dX7_findRows_199 ?_
        refine g_lneg C dX7_findRows_201 ?_
        refine g_lload 6 C rfl dX7_findRows_202 ?_
        refine g_lneg C dX7_findRows_204 ?_
        refine g_lconst 0 C dX7_findRows_205 (by decide) ?_
        refine g_lload_n 2 C rfl dX7_findRows_206 rfl ?_
        refine g_lneg C dX7_findRows_207 ?_
        refine g_aload_n 0 C rfl dX7_findRows_208 rfl ?_
        refine gf_X7_20 C dX7_findRows_209 ?_
        refine g_iload 3 C rfl dX7_findRows_212 ?_
        refine g_iald C 3 i (by decide) (fun _ => rfl) (by omega) (by omega) (by decide) dX7_findRows_214 ?_
        rw [show (put5 τ (2 * i) w3 w4 w5 0 ((σ 1 nn) * (σ 2 i))) 3 i = σ 3 i from congrFun (hF.1 3 (by decide) (by decide)) _]
        refine g_i2l C dX7_findRows_215 (by have h5 := hx i (by omega); have h6 := hl i (by omega); have h7 := hx nn (by omega); unfold I32; omega) ?_
        refine g_lmul C dX7_findRows_216 ?_
        refine g_callV C (c_X7_setRow g (r := (2 * i) + 1) (by omega)) gv_X7_82 yd_X7_setRow ⟨by decide, by decide⟩ 0 7 (WD_get (by decide)) rfl rfl (Nat.le_of_ble_eq_true rfl) dX7_findRows_217 ?_
        rintro _ rfl
        change GJ g K (WM g q (put5 (put5 τ (2 * i) w3 w4 w5 0 ((σ 1 nn) * (σ 2 i))) ((2 * i) + 1) (-w3) (-w4) (-w5) 0 ((-(σ 1 nn)) * (σ 3 i)))) _ _ _
        refine g_iinc (lv' := [(0, .ref (q 0)), (1, .int (iZ 0)), (2, .long (lZ (σ 1 nn))), (4, .int (iZ ((i : Int) + 1))), (5, .long (lZ w3)), (7, .long (lZ w4)), (9, .long (lZ w5))]) 3 [1, 2, 3, 0, 4, 5, 6] C rfl dX7_findRows_220 (by decide) rfl ?_
        refine g_goto 14 C dX7_findRows_223 (by decide) ?_
        refine g_lv [0, 1, 2, 3] rfl ?_
        subst ew5
        subst ew4
        subst ew3
        refine ih (i + 1) (by omega) (by omega) _ hF.step.step (rows_step hU (fun c hc => ?_) (fun c hc => ?_))
        · rcases (show c = 0 ∨ c = 1 ∨ c = 2 ∨ c = 3 ∨ c = 4 by omega) with rfl | rfl | rfl | rfl | rfl <;> rfl
        · rcases (show c = 0 ∨ c = 1 ∨ c = 2 ∨ c = 3 ∨ c = 4 by omega) with rfl | rfl | rfl | rfl | rfl <;> rfl
      · exact absurd h6 (by first | decide | omega)
set_option maxHeartbeats 4000000 in
set_option maxRecDepth 20000 in
theorem c_X7_findRowsF (g : Gx) {q : Nat → Nat} {σ : Nat → Nat → Int} {nn : Nat} (hn : σ 0 0 = (nn : Int)) (hn2 : 2 ≤ nn) (hn6 : nn ≤ 6) (hx : ∀ i, i ≤ nn → 0 ≤ σ 1 i ∧ σ 1 i ≤ 20) (hl : ∀ i, i ≤ nn → -20 ≤ σ 2 i ∧ σ 2 i ≤ σ 3 i ∧ σ 3 i ≤ 20) (hm : ∀ i, i ≤ nn → I32 (moM σ nn i)) : MC g yX7_findRows cX7_findRows 15 (none) 1 31 (WM g q σ) [.ref (q 0), .int (iZ 0)] (fun u => WM g q u) (pV (fun u => rowsOK false σ u nn)) := by
  refine MC_intro (own := RX7) rfl (by decide) (Nat.le_of_ble_eq_true rfl) (fun K C T => ?_)
  show GJ g K (WM g q σ) 0 [(0, .ref (q 0)), (1, .int (iZ 0))] []
  refine g_aload_n 0 C rfl dX7_findRows_0 rfl ?_
  refine gf_X7_13 C dX7_findRows_1 ?_
  refine g_aload_n 0 C rfl dX7_findRows_4 rfl ?_
  refine gf_X7_7 C dX7_findRows_5 ?_
  rw [show σ 0 0 = (nn : Int) from hn]
  refine g_iald C 1 nn (by decide) (fun _ => rfl) (by omega) (by omega) (by decide) dX7_findRows_8 ?_
  refine g_i2l C dX7_findRows_9 (by have h7 := hx nn (by omega); unfold I32; omega) ?_
  refine g_lname (fun w1 ew1 => ?_)
  refine g_lstore_n (lv' := [(0, .ref (q 0)), (1, .int (iZ 0)), (2, .long (lZ w1))]) [1, 2, 0] C dX7_findRows_10 rfl (by decide) rfl ?_
  refine g_iconst C dX7_findRows_11 ?_
  refine g_istore (lv' := [(0, .ref (q 0)), (1, .int (iZ 0)), (2, .long (lZ w1)), (4, .int (iZ 0))]) [1, 2, 3, 0] C dX7_findRows_12 (by decide) rfl ?_
  (subst ew1; exact lp_X7_findRowsF hn hn2 hn6 hx hl hm C T (nn + 2) 0 (by omega) (by omega) σ ⟨fun _ _ _ => rfl, fun _ _ => rfl⟩ (fun i' h9 => absurd h9 (by omega)))
set_option maxHeartbeats 4000000 in
set_option maxRecDepth 20000 in
theorem lp_X7_findRowsT {g : Gx} {K : Kx} {q : Nat → Nat} {σ : Nat → Nat → Int} {nn : Nat} (hn : σ 0 0 = (nn : Int)) (hn2 : 2 ≤ nn) (hn6 : nn ≤ 6) (hx : ∀ i, i ≤ nn → 0 ≤ σ 1 i ∧ σ 1 i ≤ 20) (hl : ∀ i, i ≤ nn → -20 ≤ σ 2 i ∧ σ 2 i ≤ σ 3 i ∧ σ 3 i ≤ 20) (hm : ∀ i, i ≤ nn → I32 (moM σ nn i)) (C : CX g K cX7_findRows RX7 15 1 31) (T : RT g K none (fun u => WM g q u) (pV (fun u => rowsOK true σ u nn))) : ∀ (d i : Nat), i ≤ nn + 1 → nn + 1 < i + d → ∀ τ : Nat → Nat → Int, FrR σ τ → rowsUp true σ τ nn i → GJ g K (WM g q τ) 14 [(0, .ref (q 0)), (1, .int (iZ 1)), (2, .long (lZ (σ 1 nn))), (4, .int (iZ (i : Int)))] [] := by
  intro d
  induction d with
  | zero => intro i h1 h2; omega
  | succ d ih =>
    intro i hi hd τ hF hU
    refine g_iload 3 C rfl dX7_findRows_14 ?_
    refine g_aload_n 0 C rfl dX7_findRows_16 rfl ?_
    refine gf_X7_7 C dX7_findRows_17 ?_
    rw [show τ 0 0 = (nn : Int) from ((hF.2 0 (by decide)).trans hn)]
    refine g_icmp_gt 226 C (by unfold I32; omega) (by unfold I32; omega) dX7_findRows_20 (by decide) (fun h1 => ?_) (fun h1 => ?_)
    · refine g_aload_n 0 C rfl dX7_findRows_226 rfl ?_
      refine g_iconst C dX7_findRows_227 ?_
      refine g_aload_n 0 C rfl dX7_findRows_228 rfl ?_
      refine gf_X7_7 C dX7_findRows_229 ?_
      rw [show τ 0 0 = (nn : Int) from ((hF.2 0 (by decide)).trans hn)]
      refine g_imul C dX7_findRows_232 ?_
      refine g_iconst C dX7_findRows_233 ?_
      refine g_iadd C dX7_findRows_234 ?_
      refine pf_X7_88 C dX7_findRows_235 ?_
      refine g_aload_n 0 C rfl dX7_findRows_238 rfl ?_
      refine g_aload_n 0 C rfl dX7_findRows_239 rfl ?_
      refine gf_X7_88 C dX7_findRows_240 ?_
      rw [show (up τ 0 9 ((2 * (nn : Int)) + 2)) 0 9 = (2 * (nn : Int)) + 2 from up_s _ _ _ _]
      refine g_lconst 0 C dX7_findRows_243 (by decide) ?_
      refine g_lconst 0 C dX7_findRows_244 (by decide) ?_
      refine g_lconst 1 C dX7_findRows_245 (by decide) ?_
      refine g_lconst 0 C dX7_findRows_246 (by decide) ?_
      refine g_lconst 0 C dX7_findRows_247 (by decide) ?_
      refine g_callV C (c_X7_setRow g (r := (2 * nn) + 2) (by omega)) gv_X7_82 yd_X7_setRow ⟨by decide, by decide⟩ 0 7 (WD_get (by decide)) rfl rfl (Nat.le_of_ble_eq_true rfl) dX7_findRows_248 ?_
      rintro _ rfl
      change GJ g K (WM g q (put5 (up τ 0 9 ((2 * (nn : Int)) + 2)) ((2 * nn) + 2) 0 0 1 0 0)) _ _ _
      refine g_aload_n 0 C rfl dX7_findRows_251 rfl ?_
      refine g_dup C dX7_findRows_252 rfl ?_
      refine gf_X7_88 C dX7_findRows_253 ?_
      rw [show (put5 (up τ 0 9 ((2 * (nn : Int)) + 2)) ((2 * nn) + 2) 0 0 1 0 0) 0 9 = (2 * (nn : Int)) + 2 from rfl]
      refine g_iconst C dX7_findRows_256 ?_
      refine g_iadd C dX7_findRows_257 ?_
      refine pf_X7_88 C dX7_findRows_258 ?_
      refine g_iload_n 1 C rfl dX7_findRows_261 rfl ?_
      refine g_if_eq 288 C (by unfold I32; omega) dX7_findRows_262 (by decide) (fun h2 => ?_) (fun h2 => ?_)
      · exact absurd h2 (by first | decide | omega)
      refine g_aload_n 0 C rfl dX7_findRows_265 rfl ?_
      refine g_aload_n 0 C rfl dX7_findRows_266 rfl ?_
      refine gf_X7_88 C dX7_findRows_267 ?_
      rw [show (up (put5 (up τ 0 9 ((2 * (nn : Int)) + 2)) ((2 * nn) + 2) 0 0 1 0 0) 0 9 (((2 * (nn : Int)) + 2) + 1)) 0 9 = ((2 * (nn : Int)) + 2) + 1 from up_s _ _ _ _]
      refine g_lconst 0 C dX7_findRows_270 (by decide) ?_
      refine g_lconst 0 C dX7_findRows_271 (by decide) ?_
      refine g_lconst 0 C dX7_findRows_272 (by decide) ?_
      refine g_lconst 1 C dX7_findRows_273 (by decide) ?_
      refine g_lconst 0 C dX7_findRows_274 (by decide) ?_
      refine g_callV C (c_X7_setRow g (r := ((2 * nn) + 2) + 1) (by omega)) gv_X7_82 yd_X7_setRow ⟨by decide, by decide⟩ 0 7 (WD_get (by decide)) rfl rfl (Nat.le_of_ble_eq_true rfl) dX7_findRows_275 ?_
      rintro _ rfl
      change GJ g K (WM g q (put5 (up (put5 (up τ 0 9 ((2 * (nn : Int)) + 2)) ((2 * nn) + 2) 0 0 1 0 0) 0 9 (((2 * (nn : Int)) + 2) + 1)) (((2 * nn) + 2) + 1) 0 0 0 1 0)) _ _ _
      refine g_aload_n 0 C rfl dX7_findRows_278 rfl ?_
      refine g_dup C dX7_findRows_279 rfl ?_
      refine gf_X7_88 C dX7_findRows_280 ?_
      rw [show (put5 (up (put5 (up τ 0 9 ((2 * (nn : Int)) + 2)) ((2 * nn) + 2) 0 0 1 0 0) 0 9 (((2 * (nn : Int)) + 2) + 1)) (((2 * nn) + 2) + 1) 0 0 0 1 0) 0 9 = ((2 * (nn : Int)) + 2) + 1 from rfl]
      refine g_iconst C dX7_findRows_283 ?_
      refine g_iadd C dX7_findRows_284 ?_
      refine pf_X7_88 C dX7_findRows_285 ?_
      refine g_vret (u := (up (put5 (up (put5 (up τ 0 9 ((2 * (nn : Int)) + 2)) ((2 * nn) + 2) 0 0 1 0 0) 0 9 (((2 * (nn : Int)) + 2) + 1)) (((2 * nn) + 2) + 1) 0 0 0 1 0) 0 9 ((((2 * (nn : Int)) + 2) + 1) + 1))) C T dX7_findRows_288 ?_
      have e9 : i = nn + 1 := by omega
      rw [e9] at hU
      exact fr_endT hF hU
    · refine g_lload_n 2 C rfl dX7_findRows_23 rfl ?_
      refine g_aload_n 0 C rfl dX7_findRows_24 rfl ?_
      refine gf_X7_13 C dX7_findRows_25 ?_
      refine g_iload 3 C rfl dX7_findRows_28 ?_
      refine g_iald C 1 i (by decide) (fun _ => rfl) (by omega) (by omega) (by decide) dX7_findRows_30 ?_
      rw [show τ 1 i = σ 1 i from congrFun (hF.1 1 (by decide) (by decide)) _]
      refine g_i2l C dX7_findRows_31 (by have h5 := hx i (by omega); have h6 := hl i (by omega); have h7 := hx nn (by omega); unfold I32; omega) ?_
      refine g_lsub C dX7_findRows_32 ?_
      refine g_lname (fun w3 ew3 => ?_)
      refine g_lstore (lv' := [(0, .ref (q 0)), (1, .int (iZ 1)), (2, .long (lZ (σ 1 nn))), (4, .int (iZ (i : Int))), (5, .long (lZ w3))]) [1, 2, 3, 4, 0] C dX7_findRows_33 (by decide) rfl ?_
      refine g_aload_n 0 C rfl dX7_findRows_35 rfl ?_
      refine gf_X7_13 C dX7_findRows_36 ?_
      refine g_iload 3 C rfl dX7_findRows_39 ?_
      refine g_iald C 1 i (by decide) (fun _ => rfl) (by omega) (by omega) (by decide) dX7_findRows_41 ?_
      rw [show τ 1 i = σ 1 i from congrFun (hF.1 1 (by decide) (by decide)) _]
      refine g_i2l C dX7_findRows_42 (by have h5 := hx i (by omega); have h6 := hl i (by omega); have h7 := hx nn (by omega); unfold I32; omega) ?_
      refine g_lname (fun w4 ew4 => ?_)
      refine g_lstore (lv' := [(0, .ref (q 0)), (1, .int (iZ 1)), (2, .long (lZ (σ 1 nn))), (4, .int (iZ (i : Int))), (5, .long (lZ w3)), (7, .long (lZ w4))]) [1, 2, 3, 4, 5, 0] C dX7_findRows_43 (by decide) rfl ?_
      refine g_aload_n 0 C rfl dX7_findRows_45 rfl ?_
      refine g_iload 3 C rfl dX7_findRows_46 ?_
      refine g_callI C (c_X7_momentAt g (σ := τ) (nn := nn) (i := i) ((hF.2 0 (by decide)).trans hn) hn2 hn6 (by omega)) gv_X7_78 yd_X7_momentAt ⟨by decide, by decide⟩ 0 7 (WD_get (by decide)) rfl rfl (Nat.le_of_ble_eq_true rfl) dX7_findRows_48 ?_
      rintro _ _ rfl
      rw [show mosum (τ 1) (τ 4) (τ 1 nn) i nn = moM σ nn i from by rw [hF.1 1 (by decide) (by decide), hF.1 4 (by decide) (by decide)]; rfl]
      refine g_i2l C dX7_findRows_51 (hm i (by omega)) ?_
      refine g_lname (fun w5 ew5 => ?_)
      refine g_lstore (lv' := [(0, .ref (q 0)), (1, .int (iZ 1)), (2, .long (lZ (σ 1 nn))), (4, .int (iZ (i : Int))), (5, .long (lZ w3)), (7, .long (lZ w4)), (9, .long (lZ w5))]) [1, 2, 3, 4, 5, 6, 0] C dX7_findRows_52 (by decide) rfl ?_
      refine g_iload_n 1 C rfl dX7_findRows_54 rfl ?_
      refine g_if_eq 164 C (by unfold I32; omega) dX7_findRows_55 (by decide) (fun h6 => ?_) (fun h6 => ?_)
      · exact absurd h6 (by first | decide | omega)
      refine g_lload_n 2 C rfl dX7_findRows_58 rfl ?_
      refine g_aload_n 0 C rfl dX7_findRows_59 rfl ?_
      refine gf_X7_20 C dX7_findRows_60 ?_
      refine g_iload 3 C rfl dX7_findRows_63 ?_
      refine g_iald C 3 i (by decide) (fun _ => rfl) (by omega) (by omega) (by decide) dX7_findRows_65 ?_
      rw [show τ 3 i = σ 3 i from congrFun (hF.1 3 (by decide) (by decide)) _]
      refine g_aload_n 0 C rfl dX7_findRows_66 rfl ?_
      refine gf_X7_17 C dX7_findRows_67 ?_
      refine g_iload 3 C rfl dX7_findRows_70 ?_
      refine g_iald C 2 i (by decide) (fun _ => rfl) (by omega) (by omega) (by decide) dX7_findRows_72 ?_
      rw [show τ 2 i = σ 2 i from congrFun (hF.1 2 (by decide) (by decide)) _]
      refine g_isub C dX7_findRows_73 ?_
      refine g_i2l C dX7_findRows_74 (by have h5 := hx i (by omega); have h6 := hl i (by omega); have h7 := hx nn (by omega); unfold I32; omega) ?_
      refine g_lmul C dX7_findRows_75 ?_
      refine g_lname (fun w7 ew7 => ?_)
      refine g_lstore (lv' := [(0, .ref (q 0)), (1, .int (iZ 1)), (2, .long (lZ (σ 1 nn))), (4, .int (iZ (i : Int))), (5, .long (lZ w3)), (7, .long (lZ w4)), (9, .long (lZ w5)), (11, .long (lZ w7))]) [1, 2, 3, 4, 5, 6, 7, 0] C dX7_findRows_76 (by decide) rfl ?_
      refine g_lload_n 2 C rfl dX7_findRows_78 rfl ?_
      refine g_aload_n 0 C rfl dX7_findRows_79 rfl ?_
      refine gf_X7_20 C dX7_findRows_80 ?_
      refine g_iload 3 C rfl dX7_findRows_83 ?_
      refine g_iald C 3 i (by decide) (fun _ => rfl) (by omega) (by omega) (by decide) dX7_findRows_85 ?_
      rw [show τ 3 i = σ 3 i from congrFun (hF.1 3 (by decide) (by decide)) _]
      refine g_aload_n 0 C rfl dX7_findRows_86 rfl ?_
      refine gf_X7_17 C dX7_findRows_87 ?_
      refine g_iload 3 C rfl dX7_findRows_90 ?_
      refine g_iald C 2 i (by decide) (fun _ => rfl) (by omega) (by omega) (by decide) dX7_findRows_92 ?_
      rw [show τ 2 i = σ 2 i from congrFun (hF.1 2 (by decide) (by decide)) _]
      refine g_iadd C dX7_findRows_93 ?_
      refine g_i2l C dX7_findRows_94 (by have h5 := hx i (by omega); have h6 := hl i (by omega); have h7 := hx nn (by omega); unfold I32; omega) ?_
      refine g_lmul C dX7_findRows_95 ?_
      refine g_lname (fun w8 ew8 => ?_)
      refine g_lstore (lv' := [(0, .ref (q 0)), (1, .int (iZ 1)), (2, .long (lZ (σ 1 nn))), (4, .int (iZ (i : Int))), (5, .long (lZ w3)), (7, .long (lZ w4)), (9, .long (lZ w5)), (11, .long (lZ w7)), (13, .long (lZ w8))]) [1, 2, 3, 4, 5, 6, 7, 8, 0] C dX7_findRows_96 (by decide) rfl ?_
      refine g_aload_n 0 C rfl dX7_findRows_98 rfl ?_
      refine g_iconst C dX7_findRows_99 ?_
      refine g_iload 3 C rfl dX7_findRows_100 ?_
      refine g_imul C dX7_findRows_102 ?_
      refine g_ldc2 2 C wk_X7_55 (by decide) dX7_findRows_103 ?_
      refine g_lload 4 C rfl dX7_findRows_106 ?_
      refine g_lmul C dX7_findRows_108 ?_
      refine g_ldc2 2 C wk_X7_55 (by decide) dX7_findRows_109 ?_
      refine g_lload 5 C rfl dX7_findRows_112 ?_
      refine g_lmul C dX7_findRows_114 ?_
      refine g_ldc2 2 C wk_X7_55 (by decide) dX7_findRows_115 ?_
      refine g_lload 6 C rfl dX7_findRows_118 ?_
      refine g_lmul C dX7_findRows_120 ?_
      refine g_lload 7 C rfl dX7_findRows_121 ?_
      refine g_lload 8 C rfl dX7_findRows_123 ?_
      refine g_callV C (c_X7_setRow g (r := 2 * i) (by omega)) gv_X7_82 yd_X7_setRow ⟨by decide, by decide⟩ 0 7 (WD_get (by decide)) rfl rfl (Nat.le_of_ble_eq_true rfl) dX7_findRows_125 ?_
      rintro _ rfl
      change GJ g K (WM g q (put5 τ (2 * i) (2 * w3) (2 * w4) (2 * w5) w7 w8)) _ _ _
      refine g_aload_n 0 C rfl dX7_findRows_128 rfl ?_
      refine g_iconst C dX7_findRows_129 ?_
      refine g_iload 3 C rfl dX7_findRows_130 ?_
      refine g_imul C dX7_findRows_132 ?_
      refine g_iconst C dX7_findRows_133 ?_
      refine g_iadd C dX7_findRows_134 ?_
      refine g_ldc2 (-2) C wk_X7_86 (by decide) dX7_findRows_135 ?_
      refine g_lload 4 C rfl dX7_findRows_138 ?_
      refine g_lmul C dX7_findRows_140 ?_
      refine g_ldc2 (-2) C wk_X7_86 (by decide) dX7_findRows_141 ?_
      refine g_lload 5 C rfl dX7_findRows_144 ?_
      refine g_lmul C dX7_findRows_146 ?_
      refine g_ldc2 (-2) C wk_X7_86 (by decide) dX7_findRows_147 ?_
      refine g_lload 6 C rfl dX7_findRows_150 ?_
      refine g_lmul C dX7_findRows_152 ?_
      refine g_lload 7 C rfl dX7_findRows_153 ?_
      refine g_lload 8 C rfl dX7_findRows_155 ?_
      refine g_lneg C dX7_findRows_157 ?_
      refine g_callV C (c_X7_setRow g (r := (2 * i) + 1) (by omega)) gv_X7_82 yd_X7_setRow ⟨by decide, by decide⟩ 0 7 (WD_get (by decide)) rfl rfl (Nat.le_of_ble_eq_true rfl) dX7_findRows_158 ?_
      rintro _ rfl
      change GJ g K (WM g q (put5 (put5 τ (2 * i) (2 * w3) (2 * w4) (2 * w5) w7 w8) ((2 * i) + 1) ((-2) * w3) ((-2) * w4) ((-2) * w5) w7 (-w8))) _ _ _
      refine g_goto 220 C dX7_findRows_161 (by decide) ?_
      refine g_iinc (lv' := [(0, .ref (q 0)), (1, .int (iZ 1)), (2, .long (lZ (σ 1 nn))), (4, .int (iZ ((i : Int) + 1))), (5, .long (lZ w3)), (7, .long (lZ w4)), (9, .long (lZ w5)), (11, .long (lZ w7)), (13, .long (lZ w8))]) 3 [1, 2, 3, 0, 4, 5, 6, 7, 8] C rfl dX7_findRows_220 (by decide) rfl ?_
      refine g_goto 14 C dX7_findRows_223 (by decide) ?_
      refine g_lv [0, 1, 2, 3] rfl ?_
      subst ew8
      subst ew7
      subst ew5
      subst ew4
      subst ew3
      refine ih (i + 1) (by omega) (by omega) _ hF.step.step (rows_step hU (fun c hc => ?_) (fun c hc => ?_))
      · rcases (show c = 0 ∨ c = 1 ∨ c = 2 ∨ c = 3 ∨ c = 4 by omega) with rfl | rfl | rfl | rfl | rfl <;> rfl
      · rcases (show c = 0 ∨ c = 1 ∨ c = 2 ∨ c = 3 ∨ c = 4 by omega) with rfl | rfl | rfl | rfl | rfl <;> rfl
set_option maxHeartbeats 4000000 in
set_option maxRecDepth 20000 in
theorem c_X7_findRowsT (g : Gx) {q : Nat → Nat} {σ : Nat → Nat → Int} {nn : Nat} (hn : σ 0 0 = (nn : Int)) (hn2 : 2 ≤ nn) (hn6 : nn ≤ 6) (hx : ∀ i, i ≤ nn → 0 ≤ σ 1 i ∧ σ 1 i ≤ 20) (hl : ∀ i, i ≤ nn → -20 ≤ σ 2 i ∧ σ 2 i ≤ σ 3 i ∧ σ 3 i ≤ 20) (hm : ∀ i, i ≤ nn → I32 (moM σ nn i)) : MC g yX7_findRows cX7_findRows 15 (none) 1 31 (WM g q σ) [.ref (q 0), .int (iZ 1)] (fun u => WM g q u) (pV (fun u => rowsOK true σ u nn)) := by
  refine MC_intro (own := RX7) rfl (by decide) (Nat.le_of_ble_eq_true rfl) (fun K C T => ?_)
  show GJ g K (WM g q σ) 0 [(0, .ref (q 0)), (1, .int (iZ 1))] []
  refine g_aload_n 0 C rfl dX7_findRows_0 rfl ?_
  refine gf_X7_13 C dX7_findRows_1 ?_
  refine g_aload_n 0 C rfl dX7_findRows_4 rfl ?_
  refine gf_X7_7 C dX7_findRows_5 ?_
  rw [show σ 0 0 = (nn : Int) from hn]
  refine g_iald C 1 nn (by decide) (fun _ => rfl) (by omega) (by omega) (by decide) dX7_findRows_8 ?_
  refine g_i2l C dX7_findRows_9 (by have h7 := hx nn (by omega); unfold I32; omega) ?_
  refine g_lname (fun w1 ew1 => ?_)
  refine g_lstore_n (lv' := [(0, .ref (q 0)), (1, .int (iZ 1)), (2, .long (lZ w1))]) [1, 2, 0] C dX7_findRows_10 rfl (by decide) rfl ?_
  refine g_iconst C dX7_findRows_11 ?_
  refine g_istore (lv' := [(0, .ref (q 0)), (1, .int (iZ 1)), (2, .long (lZ w1)), (4, .int (iZ 0))]) [1, 2, 3, 0] C dX7_findRows_12 (by decide) rfl ?_
  (subst ew1; exact lp_X7_findRowsT hn hn2 hn6 hx hl hm C T (nn + 2) 0 (by omega) (by omega) σ ⟨fun _ _ _ => rfl, fun _ _ => rfl⟩ (fun i' h9 => absurd h9 (by omega)))
