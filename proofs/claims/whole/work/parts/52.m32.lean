def mid (x l u : Nat → Int) (i j r : Nat) : Int := rs x l u i j r + rs x u l i j r
def rom (x l u : Nat → Int) (i j r : Nat) : Int := rs x u l i j r - rs x l u i j r
def bnd (x m : Nat → Int) (i j r : Nat) : Int := rs x m m i j r
/-- straight triples have room enough, thinned by a by b -/
def ST (x l u m : Nat → Int) (n : Nat) (a b : Int) : Prop := ∀ i j r, i < j → j < r → r ≤ n → bnd x m i j r = 0 → absZ (mid x l u i j r) * b ≤ rom x l u i j r * a
/-- bent triples leave a push in common, thinned by a by b -/
def BN (x l u m : Nat → Int) (n : Nat) (a b : Int) : Prop := (∀ i j r, i < j → j < r → r ≤ n → 0 < bnd x m i j r → 0 ≤ mid x l u i j r * b + rom x l u i j r * a) ∧ ∀ i j r i' j' r', i < j → j < r → r ≤ n → 0 < bnd x m i j r → i' < j' → j' < r' → r' ≤ n → 0 < bnd x m i' j' r' → (mid x l u i j r * b - rom x l u i j r * a) * bnd x m i' j' r' ≤ (mid x l u i' j' r' * b + rom x l u i' j' r' * a) * bnd x m i j r
def HoldP (x l u m : Nat → Int) (n : Nat) (a b : Int) : Prop := ST x l u m n a b ∧ BN x l u m n a b
def entM (σ u : Nat → Nat → Int) (lc nn e i j r : Nat) : Prop := u 8 e = mid (σ 2) (σ 3) (σ 4) i j r ∧ u 9 e = rom (σ 2) (σ 3) (σ 4) i j r ∧ u 10 e = bnd (σ 2) (mo (σ 2) (σ lc) nn) i j r
theorem ga_ent {σ u : Nat → Nat → Int} {lc nn cnt : Nat} (hG : GA σ lc nn u) (hc : u 7 1 = (cnt : Int)) : (∀ e, 1 ≤ e → e ≤ cnt → ∃ i j r, (i < j ∧ j < r ∧ r ≤ nn) ∧ entM σ u lc nn e i j r) ∧ ∀ i j r, (i < j ∧ j < r ∧ r ≤ nn) → ∃ e, 1 ≤ e ∧ e ≤ cnt ∧ entM σ u lc nn e i j r := by
  obtain ⟨-, g6, cn, g7, g8, g9, g10⟩ := hG
  obtain rfl : cn = cnt := by omega
  have key : ∀ e i j r, (i < j ∧ j < r ∧ r ≤ nn) → ent (σ 2) (σ 3) (σ 4) (u 6) u e i j r → entM σ u lc nn e i j r := by
    intro e i j r hs ⟨h1, h2, h3⟩
    refine ⟨h1, h2, ?_⟩
    rw [h3]
    exact rs_cong (g6 j (by omega)) (g6 i (by omega)) (g6 r (by omega))
  refine ⟨fun e h1 h2 => ?_, fun i j r hs => ?_⟩
  · obtain ⟨i, j, r, hs, h⟩ := g9 e h1 h2
    exact ⟨i, j, r, hs, key e i j r hs h⟩
  · obtain ⟨e, h1, h2, h⟩ := g10 i j r hs
    exact ⟨e, h1, h2, key e i j r hs h⟩
theorem str_iff {σ u : Nat → Nat → Int} {lc nn cnt : Nat} {a b : Int} (hG : GA σ lc nn u) (hc : u 7 1 = (cnt : Int)) : Str u cnt a b ↔ ST (σ 2) (σ 3) (σ 4) (mo (σ 2) (σ lc) nn) nn a b := by
  obtain ⟨h1, h2⟩ := ga_ent hG hc
  constructor
  · intro h i j r k1 k2 k3 k4
    obtain ⟨e, e1, e2, e3, e4, e5⟩ := h2 i j r ⟨k1, k2, k3⟩
    have := h e e1 e2 (by rw [e5]; exact k4)
    rw [e3, e4] at this
    exact this
  · intro h e e1 e2 e0
    obtain ⟨i, j, r, hs, e3, e4, e5⟩ := h1 e e1 e2
    rw [e3, e4]
    exact h i j r hs.1 hs.2.1 hs.2.2 (by rw [← e5]; exact e0)
theorem bnt_iff2 {σ u : Nat → Nat → Int} {lc nn cnt : Nat} {a b : Int} (hG : GA σ lc nn u) (hc : u 7 1 = (cnt : Int)) (hT : TB u cnt) : Bnt u cnt a b ↔ BN (σ 2) (σ 3) (σ 4) (mo (σ 2) (σ lc) nn) nn a b := by
  obtain ⟨h1, h2⟩ := ga_ent hG hc
  have z0 : lst u a b 0 = 0 := by unfold lst; rw [hT.2.2.1, hT.2.2.2.1]; omega
  constructor
  · intro h
    refine ⟨fun i j r k1 k2 k3 k4 => ?_, fun i j r i' j' r' k1 k2 k3 k4 k1' k2' k3' k4' => ?_⟩
    · obtain ⟨e, e1, e2, e3, e4, e5⟩ := h2 i j r ⟨k1, k2, k3⟩
      have := h 0 e (by omega) (by rw [hT.2.2.2.2.1]; decide) e1 e2 (by rw [e5]; exact k4)
      rw [z0, hT.2.2.2.2.1] at this
      unfold mst at this
      rw [e3, e4] at this
      omega
    · obtain ⟨e, e1, e2, e3, e4, e5⟩ := h2 i j r ⟨k1, k2, k3⟩
      obtain ⟨f, f1, f2, f3, f4, f5⟩ := h2 i' j' r' ⟨k1', k2', k3'⟩
      have := h e f e2 (by rw [e5]; exact k4) f1 f2 (by rw [f5]; exact k4')
      unfold lst mst at this
      rw [e3, e4, e5, f3, f4, f5] at this
      exact this
  · intro h e f e2 e0 f1 f2 f0
    obtain ⟨i', j', r', hs', f3, f4, f5⟩ := h1 f f1 f2
    by_cases ez : e = 0
    · subst ez
      rw [z0, hT.2.2.2.2.1]
      unfold mst
      rw [f3, f4]
      have := h.1 i' j' r' hs'.1 hs'.2.1 hs'.2.2 (by rw [← f5]; exact f0)
      omega
    · obtain ⟨i, j, r, hs, e3, e4, e5⟩ := h1 e (by omega) e2
      unfold lst mst
      rw [e3, e4, e5, f3, f4, f5]
      exact h.2 i j r i' j' r' hs.1 hs.2.1 hs.2.2 (by rw [← e5]; exact e0) hs'.1 hs'.2.1 hs'.2.2 (by rw [← f5]; exact f0)
/-- all that later calls may see is as it was -/
def FrC (σ u : Nat → Nat → Int) : Prop := (∀ c, (1 ≤ c ∧ c ≤ 5) ∨ (15 ≤ c ∧ c ≤ 22) → u c = σ c) ∧ u 8 0 = σ 8 0 ∧ u 9 0 = σ 9 0 ∧ u 10 0 = σ 10 0
theorem FrC.rf (σ : Nat → Nat → Int) : FrC σ σ := ⟨fun _ _ => rfl, rfl, rfl, rfl⟩
theorem FrC.tr {a b c : Nat → Nat → Int} (h1 : FrC a b) (h2 : FrC b c) : FrC a c := ⟨fun k hk => (h2.1 k hk).trans (h1.1 k hk), h2.2.1.trans h1.2.1, h2.2.2.1.trans h1.2.2.1, h2.2.2.2.trans h1.2.2.2⟩
theorem GA.fr {σ u : Nat → Nat → Int} {lc nn : Nat} (h : GA σ lc nn u) : FrC σ u := ⟨fun c hc => h.1.1 c (by omega) (by omega) (by omega) (by omega) (by omega), h.1.2.2.1, h.1.2.2.2.1, h.1.2.2.2.2⟩
theorem FrC.of {σ u : Nat → Nat → Int} (h : ∀ c, c ≤ 10 ∨ (15 ≤ c ∧ c ≤ 22) → u c = σ c) : FrC σ u := ⟨fun c hc => h c (by omega), by rw [h 8 (by omega)], by rw [h 9 (by omega)], by rw [h 10 (by omega)]⟩
theorem FrC.f24 {σ u : Nat → Nat → Int} (h : Fr24 σ u) : FrC σ u := FrC.of (fun c hc => h c (by omega))
theorem HS.fr {σ u : Nat → Nat → Int} {nn : Nat} (h : HS σ 5 nn) (hf : FrC σ u) : HS u 5 nn := by
  unfold HS
  rw [hf.1 1 (by omega), hf.1 2 (by omega), hf.1 3 (by omega), hf.1 4 (by omega), hf.1 5 (by omega), hf.2.1, hf.2.2.1, hf.2.2.2]
  exact h
set_option maxHeartbeats 4000000 in
set_option maxRecDepth 20000 in
theorem c_X6_read (g : Gx) {q : Nat → Nat} {σ : Nat → Nat → Int} {nn : Nat} (hn : σ 1 0 = (nn : Int)) (hn2 : 2 ≤ nn) (hn6 : nn ≤ 6) (hsh : HSh σ) (hit : ∀ s, s < 4 → ∀ j, j < 28 → I32 (σ (15 + s + 4) j)) {sa la fa : Int} (h_sa : I32 sa) (h_la : I32 la) (h_fa : I32 fa) : MC g yX6_read cX6_read 6 ((some .int)) 3 67 (WC g q σ) [.ref (q 0), .int (iZ sa), .int (iZ la), .int (iZ fa)] (fun u => WC g q u) (pI (fun z u => (itR (lnC σ) (szC σ) nn sa la fa ≠ 1 ∧ z = itR (lnC σ) (szC σ) nn sa la fa ∧ u = σ) ∨ (itR (lnC σ) (szC σ) nn sa la fa = 1 ∧ ((¬ (∀ i, i ≤ nn → RdJ (σ (15 + sa.toNat + 4)) fa.toNat i) ∧ z = -2 ∧ u = σ) ∨ ((∀ i, i ≤ nn → RdJ (σ (15 + sa.toNat + 4)) fa.toNat i) ∧ z = 1 ∧ u = rdS σ (σ (15 + sa.toNat + 4)) 2 3 4 5 nn fa.toNat))))) := by
  refine MC_intro (own := RX6) rfl (by decide) (Nat.le_of_ble_eq_true rfl) (fun K C T => ?_)
  show GJ g K (WC g q σ) 0 [(0, .ref (q 0)), (1, .int (iZ sa)), (2, .int (iZ la)), (3, .int (iZ fa))] []
  refine g_aload_n 0 C rfl dX6_read_0 rfl ?_
  refine g_iload_n 1 C rfl dX6_read_1 rfl ?_
  refine g_iload_n 2 C rfl dX6_read_2 rfl ?_
  refine g_callI C (c_X6_refusalOfRow g (σ := σ) hsh h_sa h_la) gv_X6_111 yd_X6_refusalOfRow ⟨by decide, by decide⟩ 0 6 (WD_get (by decide)) rfl rfl (Nat.le_of_ble_eq_true rfl) dX6_read_3 ?_
  rintro _ _ rfl
  refine g_iname (fun w1 ew1 => ?_)
  refine g_istore (lv' := [(0, .ref (q 0)), (1, .int (iZ sa)), (2, .int (iZ la)), (3, .int (iZ fa)), (4, .int (iZ w1))]) [1, 2, 3, 4, 0] C dX6_read_6 (by decide) rfl ?_
  refine g_iload 4 C rfl dX6_read_8 ?_
  refine g_if_eq 16 C (by rw [ew1]; exact rfC_I) dX6_read_10 (by decide) (fun h2 => ?_) (fun h2 => ?_)
  · have hr0 : rfC σ sa la = 0 := by rw [← ew1]; omega
    have hr1 := rfC_y hr0
    have hr2 := hsh sa.toNat (by omega)
    refine g_aload_n 0 C rfl dX6_read_16 rfl ?_
    refine gf_X6_41 C dX6_read_17 ?_
    refine g_iload_n 1 C rfl dX6_read_20 rfl ?_
    refine g_sheet C ((sa).toNat) (by omega) (by omega) dX6_read_21 ?_
    refine g_astore (lv' := [(0, .ref (q 0)), (1, .int (iZ sa)), (2, .int (iZ la)), (3, .int (iZ fa)), (4, .int (iZ w1)), (5, .ref (q (15 + ((sa).toNat))))]) [1, 2, 3, 4, 5, 0] C dX6_read_22 (by decide) rfl ?_
    refine g_iload_n 3 C rfl dX6_read_24 rfl ?_
    refine g_if_lt 49 C h_fa dX6_read_25 (by decide) (fun h3 => ?_) (fun h3 => ?_)
    · refine g_bipush C dX6_read_49 (by decide) ?_
      refine g_iret (u := σ) C T dX6_read_51 ?_
      have e8 : itR (lnC σ) (szC σ) nn sa la fa = -13 := by unfold itR szC; rw [if_neg (by omega), if_neg (by omega), if_pos (by omega)]
      exact ⟨_, rfl, Or.inl ⟨by rw [e8]; decide, e8.symm, rfl⟩⟩
    · refine g_iload_n 3 C rfl dX6_read_28 rfl ?_
      refine g_aload 5 C rfl dX6_read_29 ?_
      refine gf_X6_108 (by omega) C dX6_read_31 ?_
      refine g_iconst C dX6_read_34 ?_
      refine g_aload_n 0 C rfl dX6_read_35 rfl ?_
      refine gf_X6_12 C dX6_read_36 ?_
      refine gf_X6_64 C dX6_read_39 ?_
      rw [show σ 1 0 = (nn : Int) from hn]
      refine g_iconst C dX6_read_42 ?_
      refine g_iadd C dX6_read_43 ?_
      refine g_imul C dX6_read_44 ?_
      refine g_isub C dX6_read_45 ?_
      refine g_icmp_le 52 C h_fa (by have h5 := hsh sa.toNat (by omega); unfold I32; omega) dX6_read_46 (by decide) (fun h4 => ?_) (fun h4 => ?_)
      · refine g_aload_n 0 C rfl dX6_read_52 rfl ?_
        refine gf_X6_12 C dX6_read_53 ?_
        refine g_aload 5 C rfl dX6_read_56 ?_
        refine gf_X6_115 (by omega) C dX6_read_58 ?_
        refine g_iload_n 3 C rfl dX6_read_61 rfl ?_
        have hfa : fa = ((fa.toNat : Nat) : Int) := by omega
        have hit2 : ∀ j, j < 28 → I32 (σ (15 + sa.toNat + 4) j) := hit sa.toNat (by omega)
        have hmayTake := c_X0_mayTake g (q := q) (σ := σ) hn hn2 hn6 (c := 15 + sa.toNat + 4) (by omega) hit2 (a0 := fa.toNat) (by omega)
        rw [← hfa] at hmayTake
        refine g_callI C hmayTake gv_X6_118 yd_X0_mayTake ⟨by decide, by decide⟩ 1 0 (WD_get (by decide)) rfl rfl (Nat.le_of_ble_eq_true rfl) dX6_read_62 ?_
        rintro _ _ rfl
        refine g_bne 71 C dX6_read_65 (by decide) (fun h5 => ?_) (fun h5 => ?_)
        · refine g_aload_n 0 C rfl dX6_read_71 rfl ?_
          refine gf_X6_12 C dX6_read_72 ?_
          refine g_aload 5 C rfl dX6_read_75 ?_
          refine gf_X6_115 (by omega) C dX6_read_77 ?_
          refine g_iload_n 3 C rfl dX6_read_80 rfl ?_
          have htake := c_X0_take g (q := q) (σ := σ) hn hn2 hn6 (c := 15 + sa.toNat + 4) (by omega) hit2 (a0 := fa.toNat) (by omega)
          rw [← hfa] at htake
          refine g_callV C htake gv_X6_122 yd_X0_take ⟨by decide, by decide⟩ 1 0 (WD_get (by decide)) rfl rfl (Nat.le_of_ble_eq_true rfl) dX6_read_81 ?_
          rintro _ rfl
          refine g_iconst C dX6_read_84 ?_
          refine g_iret (u := (rdS σ (σ (15 + sa.toNat + 4)) 2 3 4 5 nn fa.toNat)) C T dX6_read_85 ?_
          have e8 : itR (lnC σ) (szC σ) nn sa la fa = 1 := by unfold itR szC; rw [if_neg (by omega), if_neg (by omega), if_neg (by omega)]
          exact ⟨_, rfl, Or.inr ⟨e8, Or.inr ⟨h5, rfl, rfl⟩⟩⟩
        · refine g_bipush C dX6_read_68 (by decide) ?_
          refine g_iret (u := σ) C T dX6_read_70 ?_
          have e8 : itR (lnC σ) (szC σ) nn sa la fa = 1 := by unfold itR szC; rw [if_neg (by omega), if_neg (by omega), if_neg (by omega)]
          exact ⟨_, rfl, Or.inr ⟨e8, Or.inl ⟨h5, rfl, rfl⟩⟩⟩
      · refine g_bipush C dX6_read_49 (by decide) ?_
        refine g_iret (u := σ) C T dX6_read_51 ?_
        have e8 : itR (lnC σ) (szC σ) nn sa la fa = -13 := by unfold itR szC; rw [if_neg (by omega), if_neg (by omega), if_pos (by omega)]
        exact ⟨_, rfl, Or.inl ⟨by rw [e8]; decide, e8.symm, rfl⟩⟩
  · refine g_iload 4 C rfl dX6_read_13 ?_
    refine g_iret (u := σ) C T dX6_read_15 ?_
    have e8 := (rfC_n (i := fa) (show rfC σ sa la ≠ 0 by rw [← ew1]; omega) hsh).2 nn
    subst ew1
    refine ⟨_, rfl, Or.inl ⟨?_, e8.symm, rfl⟩⟩
    rw [e8]
    unfold rfC
    (repeat' split) <;> decide
theorem hold_iff {σ u : Nat → Nat → Int} {lc nn cnt : Nat} {a b : Int} (hG : GA σ lc nn u) (hc : u 7 1 = (cnt : Int)) (hT : TB u cnt) : (Str u cnt a b ∧ Bnt u cnt a b) = HoldP (σ 2) (σ 3) (σ 4) (mo (σ 2) (σ lc) nn) nn a b := by
  apply propext
  rw [str_iff hG hc, bnt_iff2 hG hc hT]
  exact Iff.rfl
set_option maxHeartbeats 4000000 in
set_option maxRecDepth 20000 in
theorem c_X6_holdsUnder (g : Gx) {q : Nat → Nat} {σ : Nat → Nat → Int} {nn lc : Nat} (hlc : lc = 5 ∨ lc = 23) (hS : HS σ lc nn) : MC g yX6_holdsUnder cX6_holdsUnder 2 ((some .boolean)) 3 78 (WC g q σ) [.ref (q 0), .ref (q lc)] (fun u => WC g q u) (pI (fun z u => GA σ lc nn u ∧ z = bZ (HoldP (σ 2) (σ 3) (σ 4) (mo (σ 2) (σ lc) nn) nn 1 1))) := by
  refine MC_intro (own := RX6) rfl (by decide) (Nat.le_of_ble_eq_true rfl) (fun K C T => ?_)
  show GJ g K (WC g q σ) 0 [(0, .ref (q 0)), (1, .ref (q lc))] []
  refine g_aload_n 0 C rfl dX6_holdsUnder_0 rfl ?_
  refine gf_X6_21 C dX6_holdsUnder_1 ?_
  refine g_aload_n 1 C rfl dX6_holdsUnder_4 rfl ?_
  refine g_callV C (c_X5_gather g (σ := σ) (nn := nn) (lc := lc) hS.1 hS.2.1.1.1 hS.2.1.1.2 hlc hS.hx hS.hl hS.hmo) gv_X6_199 yd_X5_gather ⟨by decide, by decide⟩ 7 5 (WD_get (by decide)) rfl rfl (Nat.le_of_ble_eq_true rfl) dX6_holdsUnder_5 ?_
  intro u1 hG
  obtain ⟨cnt, hcn, hT⟩ := hS.tb hG
  refine g_aload_n 0 C rfl dX6_holdsUnder_8 rfl ?_
  refine gf_X6_21 C dX6_holdsUnder_9 ?_
  refine g_callI C (c_X5_hold g (σ := u1) hT) gv_X6_214 yd_X5_hold ⟨by decide, by decide⟩ 7 5 (WD_get (by decide)) rfl rfl (Nat.le_of_ble_eq_true rfl) dX6_holdsUnder_12 ?_
  rintro _ _ rfl
  refine g_zret (u := u1) C T dX6_holdsUnder_15 (bZ_or _) ?_
  exact ⟨_, rfl, hG, by rw [hold_iff hG hcn hT]⟩
set_option maxHeartbeats 4000000 in
set_option maxRecDepth 20000 in
theorem c_X6_stands (g : Gx) {q : Nat → Nat} {σ : Nat → Nat → Int} {nn : Nat} (hS : HS σ 5 nn) : MC g yX6_stands cX6_stands 1 ((some .int)) 4 99 (WC g q σ) [.ref (q 0)] (fun u => WC g q u) (pI (fun z u => FrC σ u ∧ z = bZ (HoldP (σ 2) (σ 3) (σ 4) (mo (σ 2) (σ 5) nn) nn 1 1))) := by
  refine MC_intro (own := RX6) rfl (by decide) (Nat.le_of_ble_eq_true rfl) (fun K C T => ?_)
  show GJ g K (WC g q σ) 0 [(0, .ref (q 0))] []
  refine g_aload_n 0 C rfl dX6_stands_0 rfl ?_
  refine g_aload_n 0 C rfl dX6_stands_1 rfl ?_
  refine gf_X6_12 C dX6_stands_2 ?_
  refine gf_X6_91 C dX6_stands_5 ?_
  refine g_callI C (c_X6_holdsUnder g (σ := σ) (nn := nn) (lc := 5) (Or.inl rfl) hS) gv_X6_134 yd_X6_holdsUnder ⟨by decide, by decide⟩ 0 6 (WD_get (by decide)) rfl rfl (Nat.le_of_ble_eq_true rfl) dX6_stands_8 ?_
  rintro _ u1 ⟨hG, rfl⟩
  obtain ⟨cnt, hcn, hT⟩ := hS.tb hG
  refine g_beq 18 C dX6_stands_11 (by decide) (fun h1 => ?_) (fun h1 => ?_)
  · refine g_iconst C dX6_stands_18 ?_
    refine g_iret (u := u1) C T dX6_stands_19 ?_
    exact ⟨_, rfl, hG.fr, (bZ_f h1).symm⟩
  · refine g_iconst C dX6_stands_14 ?_
    refine g_goto 19 C dX6_stands_15 (by decide) ?_
    refine g_iret (u := u1) C T dX6_stands_19 ?_
    exact ⟨_, rfl, hG.fr, (bZ_t h1).symm⟩
def rN (P B : Int) : Int := P.tdiv (gcZ P B)
def rD (P B : Int) : Int := B.tdiv (gcZ P B)
def ThC (S : Prop) (u1 : Nat → Nat → Int) (cnt : Nat) (L wh pt z : Int) : Prop := (¬ S ∧ z = -2) ∨ (S ∧ ∃ k : Nat, ((wh = 0 ∧ TM u1 cnt 1 1 k) ∨ (wh = 1 ∧ TL u1 cnt 1 1 k)) ∧ ((k = 0 ∧ z = -4) ∨ (k ≠ 0 ∧ ∃ P B : Int, P = (if wh = 0 then u1 8 k + u1 9 k else u1 8 k - u1 9 k) ∧ B = 2 * u1 10 k ∧ ((rN P B = 0 ∧ z = -4) ∨ (rN P B ≠ 0 ∧ ((pt = 0 ∧ z = rN (rD P B) (rN P B * L)) ∨ (pt = 1 ∧ z = rD (rD P B) (rN P B * L))))))))
theorem redP_0' {σ : Nat → Nat → Int} {c : Nat} {A B : Int} : redP σ c A B c 0 = rN A B := redP_0
theorem redP_1' {σ : Nat → Nat → Int} {c : Nat} {A B : Int} : redP σ c A B c 1 = rD A B := redP_1
theorem rN_b {P B M N : Int} (hB : 0 < B) (hP : 0 ≤ P ∧ P ≤ M) (hB2 : B ≤ N) : (0 ≤ rN P B ∧ rN P B ≤ M) ∧ (0 < rD P B ∧ rD P B ≤ N) := by
  obtain ⟨G, g1, g2, g3, g4, g5⟩ := red_f (A := P) hB
  unfold rN rD
  have n0 : 0 ≤ P.tdiv (gcZ P B) := by
    refine Int.not_lt.mp (fun h => ?_)
    have := Int.mul_pos (show 0 < -(P.tdiv (gcZ P B)) by omega) g1
    rw [Int.neg_mul] at this
    omega
  have q1 := Int.mul_le_mul_of_nonneg_left (show 1 ≤ G by omega) n0
  have q2 := Int.mul_le_mul_of_nonneg_left (show 1 ≤ G by omega) (Int.le_of_lt g4)
  omega
theorem tm_b {u : Nat → Nat → Int} {cnt k : Nat} (hT : TB u cnt) (hB : Bnt u cnt 1 1) (h : TM u cnt 1 1 k) (hk : k ≠ 0) : (0 ≤ u 8 k + u 9 k ∧ u 8 k + u 9 k ≤ 3200) ∧ 0 < 2 * u 10 k ∧ 2 * u 10 k ≤ 1600000 := by
  rcases h with h | ⟨h1, h2, -⟩
  · omega
  · have t := hT.2.2.2.2.2 k h1.2
    have := hB 0 k (by omega) (by rw [hT.2.2.2.2.1]; decide) h1.1 h1.2 h2
    unfold lst mst at this
    rw [hT.2.2.1, hT.2.2.2.1, hT.2.2.2.2.1] at this
    have t2 := t.2.1.2
    omega
theorem tl_b {u : Nat → Nat → Int} {cnt k : Nat} (hT : TB u cnt) (h : TL u cnt 1 1 k) : (0 ≤ u 8 k - u 9 k ∧ u 8 k - u 9 k ≤ 3200) ∧ 0 < 2 * u 10 k ∧ 2 * u 10 k ≤ 1600000 := by
  obtain ⟨h1, h2, h3⟩ := h
  have t := hT.2.2.2.2.2 k h1
  have := h3 0 (by omega) (by rw [hT.2.2.2.2.1]; decide)
  unfold lst at this
  rw [hT.2.2.1, hT.2.2.2.1, hT.2.2.2.2.1] at this
  have t2 := t.2.1.2
  omega
set_option maxHeartbeats 4000000 in
set_option maxRecDepth 20000 in
theorem c_X6_thrust (g : Gx) {q : Nat → Nat} {σ : Nat → Nat → Int} {nn : Nat} (hS : HS σ 5 nn) {wh pt : Int} (h_wh : I32 wh) (h_pt : I32 pt) : MC g yX6_thrust cX6_thrust 4 ((some .long)) 4 99 (WC g q σ) [.ref (q 0), .int (iZ wh), .int (iZ pt)] (fun u => WC g q u) (pL (fun z u => (¬ ((wh = 0 ∨ wh = 1) ∧ (pt = 0 ∨ pt = 1)) ∧ z = -1 ∧ u = σ) ∨ (((wh = 0 ∨ wh = 1) ∧ (pt = 0 ∨ pt = 1)) ∧ FrC σ u ∧ ∃ u1, ∃ cnt : Nat, GA σ 5 nn u1 ∧ u1 7 1 = (cnt : Int) ∧ TB u1 cnt ∧ ThC (HoldP (σ 2) (σ 3) (σ 4) (mo (σ 2) (σ 5) nn) nn 1 1) u1 cnt (σ 2 nn) wh pt z))) := by
  refine MC_intro (own := RX6) rfl (by decide) (Nat.le_of_ble_eq_true rfl) (fun K C T => ?_)
  show GJ g K (WC g q σ) 0 [(0, .ref (q 0)), (1, .int (iZ wh)), (2, .int (iZ pt))] []
  refine g_iload_n 1 C rfl dX6_thrust_0 rfl ?_
  refine g_callSI C (c_X6_isChoice g h_wh) gs_X6_138 yd_X6_isChoice ⟨by decide, by decide⟩ rfl (Nat.le_of_ble_eq_true rfl) dX6_thrust_1 ?_
  rintro _ rfl
  refine g_beq 14 C dX6_thrust_4 (by decide) (fun h1 => ?_) (fun h1 => ?_)
  · refine g_ldc2 (-1) C wk_X6_141 (by decide) dX6_thrust_14 ?_
    refine g_lret (u := σ) C T dX6_thrust_17 ?_
    exact ⟨_, rfl, Or.inl ⟨by omega, rfl, rfl⟩⟩
  · refine g_iload_n 2 C rfl dX6_thrust_7 rfl ?_
    refine g_callSI C (c_X6_isChoice g h_pt) gs_X6_138 yd_X6_isChoice ⟨by decide, by decide⟩ rfl (Nat.le_of_ble_eq_true rfl) dX6_thrust_8 ?_
    rintro _ rfl
    refine g_bne 18 C dX6_thrust_11 (by decide) (fun h2 => ?_) (fun h2 => ?_)
    · refine g_aload_n 0 C rfl dX6_thrust_18 rfl ?_
      refine g_aload_n 0 C rfl dX6_thrust_19 rfl ?_
      refine gf_X6_12 C dX6_thrust_20 ?_
      refine gf_X6_91 C dX6_thrust_23 ?_
      refine g_callI C (c_X6_holdsUnder g (σ := σ) (nn := nn) (lc := 5) (Or.inl rfl) hS) gv_X6_134 yd_X6_holdsUnder ⟨by decide, by decide⟩ 0 6 (WD_get (by decide)) rfl rfl (Nat.le_of_ble_eq_true rfl) dX6_thrust_26 ?_
      rintro _ u1 ⟨hG, rfl⟩
      obtain ⟨cnt, hcn, hT⟩ := hS.tb hG
      refine g_bne 36 C dX6_thrust_29 (by decide) (fun h3 => ?_) (fun h3 => ?_)
      · have hHold := h3
        refine g_iload_n 1 C rfl dX6_thrust_36 rfl ?_
        refine g_if_ne 54 C h_wh dX6_thrust_37 (by decide) (fun h4 => ?_) (fun h4 => ?_)
        · refine g_aload_n 0 C rfl dX6_thrust_54 rfl ?_
          refine gf_X6_21 C dX6_thrust_55 ?_
          refine g_aload_n 0 C rfl dX6_thrust_58 rfl ?_
          refine gf_X6_52 C dX6_thrust_59 ?_
          refine g_callI C (c_X5_leastPush g (σ := u1) hT) gv_X6_149 yd_X5_leastPush ⟨by decide, by decide⟩ 7 5 (WD_get (by decide)) rfl rfl (Nat.le_of_ble_eq_true rfl) dX6_thrust_62 ?_
          rintro z u2 ⟨k, hk, hz⟩
          refine g_istore_n (lv' := [(0, .ref (q 0)), (1, .int (iZ wh)), (2, .int (iZ pt)), (3, .int (iZ z))]) [1, 2, 3, 0] C dX6_thrust_65 rfl (by decide) rfl ?_
          refine g_iload_n 3 C rfl dX6_thrust_66 rfl ?_
          refine g_if_eq 82 C (by rcases hz with ⟨_, h, _⟩ | ⟨_, h, _⟩ <;> rw [h] <;> exact bZ_I _) dX6_thrust_67 (by decide) (fun h5 => ?_) (fun h5 => ?_)
          · refine g_ldc2 (-4) C wk_X6_156 (by decide) dX6_thrust_82 ?_
            refine g_lret (u := u2) C T dX6_thrust_85 ?_
            obtain ⟨hk0, hu2⟩ : k = 0 ∧ u2 = u1 := by
              rcases hz with ⟨h1, _, h2⟩ | ⟨_, h, _⟩
              · exact ⟨h1, h2⟩
              · exact absurd ((bZ_t trivial).symm.trans (h.symm.trans h5)) (by decide)
            subst hu2
            exact ⟨_, rfl, Or.inr ⟨by omega, hG.fr, u2, cnt, hG, hcn, hT, Or.inr ⟨hHold, k, Or.inr ⟨by omega, hk⟩, Or.inl ⟨hk0, rfl⟩⟩⟩⟩
          · obtain ⟨hk0, hu2⟩ : k ≠ 0 ∧ u2 = redP u1 24 (u1 8 k - u1 9 k) (2 * u1 10 k) := by
              rcases hz with ⟨_, h, _⟩ | ⟨h1, _, h2⟩
              · exact absurd (h.trans (bZ_f id)) h5
              · exact ⟨h1, h2⟩
            subst hu2
            have hpb := tl_b hT hk
            have hrb := rN_b (M := 3200) (N := 1600000) hpb.2.1 hpb.1 hpb.2.2
            refine g_aload_n 0 C rfl dX6_thrust_70 rfl ?_
            refine gf_X6_52 C dX6_thrust_71 ?_
            refine gf_X6_152 (Or.inl rfl) C dX6_thrust_74 ?_
            rw [show (redP u1 24 (u1 8 k - u1 9 k) (2 * u1 10 k)) 24 0 = rN (u1 8 k - u1 9 k) (2 * u1 10 k) from redP_0']
            refine g_lconst 0 C dX6_thrust_77 (by decide) ?_
            refine g_lcmp_ne 86 C (by unfold I64; omega) (by unfold I64; omega) dX6_thrust_78 dX6_thrust_79 (by decide) (fun h6 => ?_) (fun h6 => ?_)
            · refine g_aload_n 0 C rfl dX6_thrust_86 rfl ?_
              refine gf_X6_52 C dX6_thrust_87 ?_
              refine g_aload_n 0 C rfl dX6_thrust_90 rfl ?_
              refine gf_X6_52 C dX6_thrust_91 ?_
              refine gf_X6_158 (Or.inl rfl) C dX6_thrust_94 ?_
              rw [show (redP u1 24 (u1 8 k - u1 9 k) (2 * u1 10 k)) 24 1 = rD (u1 8 k - u1 9 k) (2 * u1 10 k) from redP_1']
              refine g_aload_n 0 C rfl dX6_thrust_97 rfl ?_
              refine gf_X6_52 C dX6_thrust_98 ?_
              refine gf_X6_152 (Or.inl rfl) C dX6_thrust_101 ?_
              rw [show (redP u1 24 (u1 8 k - u1 9 k) (2 * u1 10 k)) 24 0 = rN (u1 8 k - u1 9 k) (2 * u1 10 k) from redP_0']
              refine g_aload_n 0 C rfl dX6_thrust_104 rfl ?_
              refine gf_X6_12 C dX6_thrust_105 ?_
              have e1 : u1 1 = σ 1 := hG.fr.1 1 (by omega)
              have e2 : u1 2 = σ 2 := hG.fr.1 2 (by omega)
              refine g_callI C (c_X0_span g (σ := (redP u1 24 (u1 8 k - u1 9 k) (2 * u1 10 k))) (nn := nn) (by rw [redP_c (by decide), e1]; exact hS.1) hS.2.1.1.1 hS.2.1.1.2) gv_X6_161 yd_X0_span ⟨by decide, by decide⟩ 1 0 (WD_get (by decide)) rfl rfl (Nat.le_of_ble_eq_true rfl) dX6_thrust_108 ?_
              rintro _ _ rfl
              rw [show (redP u1 24 (u1 8 k - u1 9 k) (2 * u1 10 k)) 2 nn = σ 2 nn by rw [redP_c (by decide), e2]]
              refine g_i2l C dX6_thrust_111 (by have h9 := hS.hx nn (Nat.le_refl _); unfold I32; omega) ?_
              refine g_lmul C dX6_thrust_112 ?_
              have hL : 0 < σ 2 nn ∧ σ 2 nn ≤ 20 := ⟨by have h8 := hS.2.1.lt 0 nn (by have := hS.2.1.1; omega) (Nat.le_refl _); have h9 := hS.2.1.2.1; omega, hS.2.1.2.2.2.1⟩
              have hn0 : 0 < rN (u1 8 k - u1 9 k) (2 * u1 10 k) := by omega
              have hp1 := Int.mul_pos hn0 hL.1
              have hp2 := Int.mul_le_mul (show rN (u1 8 k - u1 9 k) (2 * u1 10 k) ≤ 3200 from hrb.1.2) hL.2 (Int.le_of_lt hL.1) (by decide)
              refine g_callV C (c_X2_become g (σ := (redP u1 24 (u1 8 k - u1 9 k) (2 * u1 10 k))) (c := 24) (Or.inl rfl) (A := rD (u1 8 k - u1 9 k) (2 * u1 10 k)) (B := (rN (u1 8 k - u1 9 k) (2 * u1 10 k)) * (σ 2 nn)) ⟨by omega, by omega⟩ hp1 (by omega)) gv_X6_165 yd_X2_become ⟨by decide, by decide⟩ 24 2 (WD_get (by decide)) rfl rfl (Nat.le_of_ble_eq_true rfl) dX6_thrust_113 ?_
              rintro _ rfl
              refine g_aload_n 0 C rfl dX6_thrust_116 rfl ?_
              refine gf_X6_52 C dX6_thrust_117 ?_
              refine g_iload_n 2 C rfl dX6_thrust_120 rfl ?_
              refine g_callL C (c_X2_part g (σ := (redP (redP u1 24 (u1 8 k - u1 9 k) (2 * u1 10 k)) 24 (rD (u1 8 k - u1 9 k) (2 * u1 10 k)) ((rN (u1 8 k - u1 9 k) (2 * u1 10 k)) * (σ 2 nn)))) h_pt) gv_X6_169 yd_X2_part ⟨by decide, by decide⟩ 24 2 (WD_get (by decide)) rfl rfl (Nat.le_of_ble_eq_true rfl) dX6_thrust_121 ?_
              rintro _ _ rfl
              refine g_lret (u := (redP (redP u1 24 (u1 8 k - u1 9 k) (2 * u1 10 k)) 24 (rD (u1 8 k - u1 9 k) (2 * u1 10 k)) ((rN (u1 8 k - u1 9 k) (2 * u1 10 k)) * (σ 2 nn)))) C T dX6_thrust_124 ?_
              refine ⟨_, rfl, Or.inr ⟨by omega, (hG.fr.tr (FrC.f24 (fun c hc => redP_c hc))).tr (FrC.f24 (fun c hc => redP_c hc)), u1, cnt, hG, hcn, hT, Or.inr ⟨hHold, k, Or.inr ⟨by omega, hk⟩, Or.inr ⟨hk0, _, _, (by rw [if_neg (by omega)]), rfl, Or.inr ⟨h6, ?_⟩⟩⟩⟩⟩
              rw [redP_0', redP_1']
              rcases (show pt = 0 ∨ pt = 1 by omega) with hp | hp
              · exact Or.inl ⟨hp, if_pos hp⟩
              · exact Or.inr ⟨hp, if_neg (by omega)⟩
            · refine g_ldc2 (-4) C wk_X6_156 (by decide) dX6_thrust_82 ?_
              refine g_lret (u := (redP u1 24 (u1 8 k - u1 9 k) (2 * u1 10 k))) C T dX6_thrust_85 ?_
              exact ⟨_, rfl, Or.inr ⟨by omega, hG.fr.tr (FrC.f24 (fun c hc => redP_c hc)), u1, cnt, hG, hcn, hT, Or.inr ⟨hHold, k, Or.inr ⟨by omega, hk⟩, Or.inr ⟨hk0, _, _, (by rw [if_neg (by omega)]), rfl, Or.inl ⟨h6, rfl⟩⟩⟩⟩⟩
        · refine g_aload_n 0 C rfl dX6_thrust_40 rfl ?_
          refine gf_X6_21 C dX6_thrust_41 ?_
          refine g_aload_n 0 C rfl dX6_thrust_44 rfl ?_
          refine gf_X6_52 C dX6_thrust_45 ?_
          refine g_callI C (c_X5_greatestPush g (σ := u1) hT) gv_X6_145 yd_X5_greatestPush ⟨by decide, by decide⟩ 7 5 (WD_get (by decide)) rfl rfl (Nat.le_of_ble_eq_true rfl) dX6_thrust_48 ?_
          rintro z u2 ⟨k, hk, hz⟩
          refine g_goto 65 C dX6_thrust_51 (by decide) ?_
          refine g_istore_n (lv' := [(0, .ref (q 0)), (1, .int (iZ wh)), (2, .int (iZ pt)), (3, .int (iZ z))]) [1, 2, 3, 0] C dX6_thrust_65 rfl (by decide) rfl ?_
          refine g_iload_n 3 C rfl dX6_thrust_66 rfl ?_
          refine g_if_eq 82 C (by rcases hz with ⟨_, h, _⟩ | ⟨_, h, _⟩ <;> rw [h] <;> exact bZ_I _) dX6_thrust_67 (by decide) (fun h7 => ?_) (fun h7 => ?_)
          · refine g_ldc2 (-4) C wk_X6_156 (by decide) dX6_thrust_82 ?_
            refine g_lret (u := u2) C T dX6_thrust_85 ?_
            obtain ⟨hk0, hu2⟩ : k = 0 ∧ u2 = u1 := by
              rcases hz with ⟨h1, _, h2⟩ | ⟨_, h, _⟩
              · exact ⟨h1, h2⟩
              · exact absurd ((bZ_t trivial).symm.trans (h.symm.trans h7)) (by decide)
            subst hu2
            exact ⟨_, rfl, Or.inr ⟨by omega, hG.fr, u2, cnt, hG, hcn, hT, Or.inr ⟨hHold, k, Or.inl ⟨by omega, hk⟩, Or.inl ⟨hk0, rfl⟩⟩⟩⟩
          · obtain ⟨hk0, hu2⟩ : k ≠ 0 ∧ u2 = redP u1 24 (u1 8 k + u1 9 k) (2 * u1 10 k) := by
              rcases hz with ⟨_, h, _⟩ | ⟨h1, _, h2⟩
              · exact absurd (h.trans (bZ_f id)) h7
              · exact ⟨h1, h2⟩
            subst hu2
            have hpb := tm_b hT (by have h9 := hHold; rw [← hold_iff hG hcn hT] at h9; exact h9.2) hk hk0
            have hrb := rN_b (M := 3200) (N := 1600000) hpb.2.1 hpb.1 hpb.2.2
            refine g_aload_n 0 C rfl dX6_thrust_70 rfl ?_
            refine gf_X6_52 C dX6_thrust_71 ?_
            refine gf_X6_152 (Or.inl rfl) C dX6_thrust_74 ?_
            rw [show (redP u1 24 (u1 8 k + u1 9 k) (2 * u1 10 k)) 24 0 = rN (u1 8 k + u1 9 k) (2 * u1 10 k) from redP_0']
            refine g_lconst 0 C dX6_thrust_77 (by decide) ?_
            refine g_lcmp_ne 86 C (by unfold I64; omega) (by unfold I64; omega) dX6_thrust_78 dX6_thrust_79 (by decide) (fun h8 => ?_) (fun h8 => ?_)
            · refine g_aload_n 0 C rfl dX6_thrust_86 rfl ?_
              refine gf_X6_52 C dX6_thrust_87 ?_
              refine g_aload_n 0 C rfl dX6_thrust_90 rfl ?_
              refine gf_X6_52 C dX6_thrust_91 ?_
              refine gf_X6_158 (Or.inl rfl) C dX6_thrust_94 ?_
              rw [show (redP u1 24 (u1 8 k + u1 9 k) (2 * u1 10 k)) 24 1 = rD (u1 8 k + u1 9 k) (2 * u1 10 k) from redP_1']
              refine g_aload_n 0 C rfl dX6_thrust_97 rfl ?_
              refine gf_X6_52 C dX6_thrust_98 ?_
              refine gf_X6_152 (Or.inl rfl) C dX6_thrust_101 ?_
              rw [show (redP u1 24 (u1 8 k + u1 9 k) (2 * u1 10 k)) 24 0 = rN (u1 8 k + u1 9 k) (2 * u1 10 k) from redP_0']
              refine g_aload_n 0 C rfl dX6_thrust_104 rfl ?_
              refine gf_X6_12 C dX6_thrust_105 ?_
              have e1 : u1 1 = σ 1 := hG.fr.1 1 (by omega)
              have e2 : u1 2 = σ 2 := hG.fr.1 2 (by omega)
              refine g_callI C (c_X0_span g (σ := (redP u1 24 (u1 8 k + u1 9 k) (2 * u1 10 k))) (nn := nn) (by rw [redP_c (by decide), e1]; exact hS.1) hS.2.1.1.1 hS.2.1.1.2) gv_X6_161 yd_X0_span ⟨by decide, by decide⟩ 1 0 (WD_get (by decide)) rfl rfl (Nat.le_of_ble_eq_true rfl) dX6_thrust_108 ?_
              rintro _ _ rfl
              rw [show (redP u1 24 (u1 8 k + u1 9 k) (2 * u1 10 k)) 2 nn = σ 2 nn by rw [redP_c (by decide), e2]]
              refine g_i2l C dX6_thrust_111 (by have h9 := hS.hx nn (Nat.le_refl _); unfold I32; omega) ?_
              refine g_lmul C dX6_thrust_112 ?_
              have hL : 0 < σ 2 nn ∧ σ 2 nn ≤ 20 := ⟨by have h8 := hS.2.1.lt 0 nn (by have := hS.2.1.1; omega) (Nat.le_refl _); have h9 := hS.2.1.2.1; omega, hS.2.1.2.2.2.1⟩
              have hn0 : 0 < rN (u1 8 k + u1 9 k) (2 * u1 10 k) := by omega
              have hp1 := Int.mul_pos hn0 hL.1
              have hp2 := Int.mul_le_mul (show rN (u1 8 k + u1 9 k) (2 * u1 10 k) ≤ 3200 from hrb.1.2) hL.2 (Int.le_of_lt hL.1) (by decide)
              refine g_callV C (c_X2_become g (σ := (redP u1 24 (u1 8 k + u1 9 k) (2 * u1 10 k))) (c := 24) (Or.inl rfl) (A := rD (u1 8 k + u1 9 k) (2 * u1 10 k)) (B := (rN (u1 8 k + u1 9 k) (2 * u1 10 k)) * (σ 2 nn)) ⟨by omega, by omega⟩ hp1 (by omega)) gv_X6_165 yd_X2_become ⟨by decide, by decide⟩ 24 2 (WD_get (by decide)) rfl rfl (Nat.le_of_ble_eq_true rfl) dX6_thrust_113 ?_
              rintro _ rfl
              refine g_aload_n 0 C rfl dX6_thrust_116 rfl ?_
              refine gf_X6_52 C dX6_thrust_117 ?_
              refine g_iload_n 2 C rfl dX6_thrust_120 rfl ?_
              refine g_callL C (c_X2_part g (σ := (redP (redP u1 24 (u1 8 k + u1 9 k) (2 * u1 10 k)) 24 (rD (u1 8 k + u1 9 k) (2 * u1 10 k)) ((rN (u1 8 k + u1 9 k) (2 * u1 10 k)) * (σ 2 nn)))) h_pt) gv_X6_169 yd_X2_part ⟨by decide, by decide⟩ 24 2 (WD_get (by decide)) rfl rfl (Nat.le_of_ble_eq_true rfl) dX6_thrust_121 ?_
              rintro _ _ rfl
              refine g_lret (u := (redP (redP u1 24 (u1 8 k + u1 9 k) (2 * u1 10 k)) 24 (rD (u1 8 k + u1 9 k) (2 * u1 10 k)) ((rN (u1 8 k + u1 9 k) (2 * u1 10 k)) * (σ 2 nn)))) C T dX6_thrust_124 ?_
              refine ⟨_, rfl, Or.inr ⟨by omega, (hG.fr.tr (FrC.f24 (fun c hc => redP_c hc))).tr (FrC.f24 (fun c hc => redP_c hc)), u1, cnt, hG, hcn, hT, Or.inr ⟨hHold, k, Or.inl ⟨by omega, hk⟩, Or.inr ⟨hk0, _, _, (by rw [if_pos (by omega)]), rfl, Or.inr ⟨h8, ?_⟩⟩⟩⟩⟩
              rw [redP_0', redP_1']
              rcases (show pt = 0 ∨ pt = 1 by omega) with hp | hp
              · exact Or.inl ⟨hp, if_pos hp⟩
              · exact Or.inr ⟨hp, if_neg (by omega)⟩
            · refine g_ldc2 (-4) C wk_X6_156 (by decide) dX6_thrust_82 ?_
              refine g_lret (u := (redP u1 24 (u1 8 k + u1 9 k) (2 * u1 10 k))) C T dX6_thrust_85 ?_
              exact ⟨_, rfl, Or.inr ⟨by omega, hG.fr.tr (FrC.f24 (fun c hc => redP_c hc)), u1, cnt, hG, hcn, hT, Or.inr ⟨hHold, k, Or.inl ⟨by omega, hk⟩, Or.inr ⟨hk0, _, _, (by rw [if_pos (by omega)]), rfl, Or.inl ⟨h8, rfl⟩⟩⟩⟩⟩
      · refine g_ldc2 (-2) C wk_X6_143 (by decide) dX6_thrust_32 ?_
        refine g_lret (u := u1) C T dX6_thrust_35 ?_
        exact ⟨_, rfl, Or.inr ⟨by omega, hG.fr, u1, cnt, hG, hcn, hT, Or.inl ⟨h3, rfl⟩⟩⟩
    · refine g_ldc2 (-1) C wk_X6_141 (by decide) dX6_thrust_14 ?_
      refine g_lret (u := σ) C T dX6_thrust_17 ?_
      exact ⟨_, rfl, Or.inl ⟨by omega, rfl, rfl⟩⟩
