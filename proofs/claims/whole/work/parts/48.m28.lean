def Hit3 (σ : Nat → Nat → Int) (_nn od p q r : Nat) (u : Nat → Nat → Int) : Prop := B3 σ od p q r ∧ u = up (kpS σ od p q r) 12 1 3
def No3 (σ : Nat → Nat → Int) (_nn od p q r : Nat) : Prop := ¬ B3 σ od p q r
def SeenFF (nn f q r f' q' r' : Nat) : Prop := (f' ≤ 2 * nn + 1 ∧ f' / 2 < q' ∧ q' < r' ∧ r' ≤ nn) ∧ (f' < f ∨ (f' = f ∧ (q' < q ∨ (q' = q ∧ r' < r))))
/-- none of the sets ahead of this one bars -/
def Fz (No : Nat → Nat → Nat → Nat → Prop) (nn f q r : Nat) : Prop := ∀ f' q' r', SeenFF nn f q r f' q' r' → No (f' % 2) (f' / 2) q' r'
theorem Fz.mono {No : Nat → Nat → Nat → Nat → Prop} {nn f q r f2 q2 r2 : Nat} (h : Fz No nn f q r) (hs : ∀ f' q' r', SeenFF nn f2 q2 r2 f' q' r' → SeenFF nn f q r f' q' r') : Fz No nn f2 q2 r2 := fun f' q' r' k => h f' q' r' (hs f' q' r' k)
theorem fz_step {No : Nat → Nat → Nat → Nat → Prop} {nn f q r : Nat} (h : Fz No nn f q r) (hn : No (f % 2) (f / 2) q r) : Fz No nn f q (r + 1) := fun f' q' r' k => by
  unfold SeenFF at k
  by_cases he : f' = f ∧ q' = q ∧ r' = r
  · obtain ⟨rfl, rfl, rfl⟩ := he; exact hn
  · exact h f' q' r' ⟨k.1, by omega⟩
def FFp (Hit : Nat → Nat → Nat → Nat → (Nat → Nat → Int) → Prop) (No : Nat → Nat → Nat → Nat → Prop) (σ : Nat → Nat → Int) (nn : Nat) (z : Int) (u : Nat → Nat → Int) : Prop := (z = 1 ∧ ∃ f q r, (f ≤ 2 * nn + 1 ∧ f / 2 < q ∧ q < r ∧ r ≤ nn) ∧ Hit (f % 2) (f / 2) q r u ∧ Fz No nn f q r) ∨ (z = 0 ∧ u = σ ∧ Fz No nn (2 * nn + 2) 0 0)
set_option maxHeartbeats 4000000 in
set_option maxRecDepth 20000 in
theorem ff3_3 {g : Gx} {K : Kx} {q : Nat → Nat} {σ : Nat → Nat → Int} {nn : Nat} (hn : σ 1 0 = (nn : Int)) (hn2 : 2 ≤ nn) (hn6 : nn ≤ 6) (hx : ∀ i, i ≤ nn → 0 ≤ σ 2 i ∧ σ 2 i ≤ 20) (hl : ∀ i, i ≤ nn → Bd (σ 3 i) 20 ∧ Bd (σ 4 i) 20) (hm : ∀ i, i ≤ nn → Bd (σ 6 i) 40000) {f q2 : Nat} (hf : f ≤ 2 * nn + 1) (hq2 : f / 2 < q2) (hq3 : q2 < nn) (C : CX g K cX1_findFirst RX1 6 4 104) (T : RT g K (some .boolean) (fun u => WC g q u) (pI (fun z u => FFp (Hit3 σ nn) (No3 σ nn) σ nn z u))) (hk : Fz (No3 σ nn) nn f q2 (nn + 1) → GJ g K (WC g q σ) 102 [(0, .ref (q 12)), (1, .int (iZ 3)), (2, .int (iZ (f : Int))), (3, .int (iZ ((f / 2 : Nat) : Int))), (4, .int (iZ (q2 : Int))), (5, .int (iZ ((nn + 1 : Nat) : Int)))] []) : ∀ (d r : Nat), q2 < r → r ≤ nn + 1 → nn + 1 < r + d → Fz (No3 σ nn) nn f q2 r → GJ g K (WC g q σ) 44 [(0, .ref (q 12)), (1, .int (iZ 3)), (2, .int (iZ (f : Int))), (3, .int (iZ ((f / 2 : Nat) : Int))), (4, .int (iZ (q2 : Int))), (5, .int (iZ (r : Int)))] [] := by
  intro d
  induction d with
  | zero => intro r k0 k1 k2; omega
  | succ d ih =>
    intro r k0 k1 k2 hI
    refine g_iload 5 C rfl dX1_findFirst_44 ?_
    refine g_aload_n 0 C rfl dX1_findFirst_46 rfl ?_
    refine gf_X1_15 C dX1_findFirst_47 ?_
    refine gf_X1_27 C dX1_findFirst_50 ?_
    rw [show σ 1 0 = (nn : Int) from hn]
    refine g_icmp_gt 102 C (by unfold I32; omega) (by unfold I32; omega) dX1_findFirst_53 (by decide) (fun h1 => ?_) (fun h1 => ?_)
    · obtain rfl : r = nn + 1 := by omega
      exact hk hI
    · refine g_iload_n 1 C rfl dX1_findFirst_56 rfl ?_
      refine g_iconst C dX1_findFirst_57 ?_
      refine g_icmp_ne 79 C (by unfold I32; omega) (by unfold I32; omega) dX1_findFirst_58 (by decide) (fun h2 => ?_) (fun h2 => ?_)
      · exact absurd h2 (by first | decide | omega)
      refine g_aload_n 0 C rfl dX1_findFirst_61 rfl ?_
      refine g_iload_n 2 C rfl dX1_findFirst_62 rfl ?_
      refine g_iconst C dX1_findFirst_63 ?_
      refine g_irem C dX1_findFirst_64 (by unfold I32; omega) (by unfold I32; omega) (by omega) ?_
      refine g_iload_n 3 C rfl dX1_findFirst_65 rfl ?_
      refine g_iload 4 C rfl dX1_findFirst_66 ?_
      refine g_iload 5 C rfl dX1_findFirst_68 ?_
      rw [show (f : Int).tmod 2 = ((f % 2 : Nat) : Int) from (Int.ofNat_tmod f 2).symm]
      refine g_callI C (c_X1_barsThree g (σ := σ) hn hn2 hn6 hx hl hm (od := f % 2) (by omega) (p := f / 2) (q2 := q2) (r := r) (by omega) (by omega) (by omega)) gv_X1_32 yd_X1_barsThree ⟨by decide, by decide⟩ 12 1 (WD_get (by decide)) rfl rfl (Nat.le_of_ble_eq_true rfl) dX1_findFirst_70 ?_
      intro z u hz
      refine g_if_eq 96 C (by rcases hz with h | h <;> unfold I32 <;> omega) dX1_findFirst_73 (by decide) (fun h3 => ?_) (fun h3 => ?_)
      · refine g_iinc (lv' := [(0, .ref (q 12)), (1, .int (iZ 3)), (2, .int (iZ (f : Int))), (3, .int (iZ ((f / 2 : Nat) : Int))), (4, .int (iZ (q2 : Int))), (5, .int (iZ ((r : Int) + 1)))]) 5 [1, 2, 3, 4, 5, 0] C rfl dX1_findFirst_96 (by decide) rfl ?_
        refine g_goto 44 C dX1_findFirst_99 (by decide) ?_
        obtain ⟨hn9, rfl⟩ : No3 σ nn (f % 2) (f / 2) q2 r ∧ u = σ := by rcases hz with h | h; omega; exact h.2
        exact ih (r + 1) (by omega) (by omega) (by omega) (fz_step hI hn9)
      · refine g_goto 94 C dX1_findFirst_76 (by decide) ?_
        refine g_iconst C dX1_findFirst_94 ?_
        refine g_zret (u := u) C T dX1_findFirst_95 (by omega) ?_
        rcases hz with hz | hz
        · exact ⟨_, rfl, Or.inl ⟨rfl, f, q2, r, ⟨hf, hq2, k0, by omega⟩, ⟨hz.2.1, hz.2.2⟩, hI⟩⟩
        · omega
set_option maxHeartbeats 4000000 in
set_option maxRecDepth 20000 in
theorem ff2_3 {g : Gx} {K : Kx} {q : Nat → Nat} {σ : Nat → Nat → Int} {nn : Nat} (hn : σ 1 0 = (nn : Int)) (hn2 : 2 ≤ nn) (hn6 : nn ≤ 6) (hx : ∀ i, i ≤ nn → 0 ≤ σ 2 i ∧ σ 2 i ≤ 20) (hl : ∀ i, i ≤ nn → Bd (σ 3 i) 20 ∧ Bd (σ 4 i) 20) (hm : ∀ i, i ≤ nn → Bd (σ 6 i) 40000) {f : Nat} (hf : f ≤ 2 * nn + 1) (C : CX g K cX1_findFirst RX1 6 4 104) (T : RT g K (some .boolean) (fun u => WC g q u) (pI (fun z u => FFp (Hit3 σ nn) (No3 σ nn) σ nn z u))) (hk : ∀ q9 : Nat, Fz (No3 σ nn) nn f nn 0 → GJ g K (WC g q σ) 108 [(0, .ref (q 12)), (1, .int (iZ 3)), (2, .int (iZ (f : Int))), (3, .int (iZ ((f / 2 : Nat) : Int))), (4, .int (iZ (q9 : Int)))] []) : ∀ (d q2 : Nat), f / 2 < q2 → q2 ≤ nn + 1 → nn + 1 < q2 + d → Fz (No3 σ nn) nn f q2 0 → GJ g K (WC g q σ) 26 [(0, .ref (q 12)), (1, .int (iZ 3)), (2, .int (iZ (f : Int))), (3, .int (iZ ((f / 2 : Nat) : Int))), (4, .int (iZ (q2 : Int)))] [] := by
  intro d
  induction d with
  | zero => intro q2 k0 k1 k2; omega
  | succ d ih =>
    intro q2 k0 k1 k2 hI
    refine g_iload 4 C rfl dX1_findFirst_26 ?_
    refine g_aload_n 0 C rfl dX1_findFirst_28 rfl ?_
    refine gf_X1_15 C dX1_findFirst_29 ?_
    refine gf_X1_27 C dX1_findFirst_32 ?_
    rw [show σ 1 0 = (nn : Int) from hn]
    refine g_icmp_ge 108 C (by unfold I32; omega) (by unfold I32; omega) dX1_findFirst_35 (by decide) (fun h1 => ?_) (fun h1 => ?_)
    · exact hk q2 (hI.mono (fun f' q' r' k => by unfold SeenFF at *; omega))
    · refine g_iload 4 C rfl dX1_findFirst_38 ?_
      refine g_iconst C dX1_findFirst_40 ?_
      refine g_iadd C dX1_findFirst_41 ?_
      refine g_iname (fun w2 ew2 => ?_)
      refine g_istore (lv' := [(0, .ref (q 12)), (1, .int (iZ 3)), (2, .int (iZ (f : Int))), (3, .int (iZ ((f / 2 : Nat) : Int))), (4, .int (iZ (q2 : Int))), (5, .int (iZ w2))]) [1, 2, 3, 4, 5, 0] C dX1_findFirst_42 (by decide) rfl ?_
      subst ew2
      refine ff3_3 hn hn2 hn6 hx hl hm hf k0 (by omega) C T (fun hI2 => ?_) nn (q2 + 1) (by omega) (by omega) (by omega) (hI.mono (fun f' q' r' k => by unfold SeenFF at *; omega))
      refine g_iinc (lv' := [(0, .ref (q 12)), (1, .int (iZ 3)), (2, .int (iZ (f : Int))), (3, .int (iZ ((f / 2 : Nat) : Int))), (4, .int (iZ ((q2 : Int) + 1))), (5, .int (iZ ((nn + 1 : Nat) : Int)))]) 4 [1, 2, 3, 4, 0, 5] C rfl dX1_findFirst_102 (by decide) rfl ?_
      refine g_goto 26 C dX1_findFirst_105 (by decide) ?_
      refine g_lv [0, 1, 2, 3, 4] rfl ?_
      exact ih (q2 + 1) (by omega) (by omega) (by omega) (hI2.mono (fun f' q' r' k => by unfold SeenFF at *; omega))
set_option maxHeartbeats 4000000 in
set_option maxRecDepth 20000 in
theorem ff1_3 {g : Gx} {K : Kx} {q : Nat → Nat} {σ : Nat → Nat → Int} {nn : Nat} (hn : σ 1 0 = (nn : Int)) (hn2 : 2 ≤ nn) (hn6 : nn ≤ 6) (hx : ∀ i, i ≤ nn → 0 ≤ σ 2 i ∧ σ 2 i ≤ 20) (hl : ∀ i, i ≤ nn → Bd (σ 3 i) 20 ∧ Bd (σ 4 i) 20) (hm : ∀ i, i ≤ nn → Bd (σ 6 i) 40000) (C : CX g K cX1_findFirst RX1 6 4 104) (T : RT g K (some .boolean) (fun u => WC g q u) (pI (fun z u => FFp (Hit3 σ nn) (No3 σ nn) σ nn z u))) : ∀ (d f : Nat), f ≤ 2 * nn + 2 → 2 * nn + 2 < f + d → Fz (No3 σ nn) nn f 0 0 → GJ g K (WC g q σ) 2 [(0, .ref (q 12)), (1, .int (iZ 3)), (2, .int (iZ (f : Int)))] [] := by
  intro d
  induction d with
  | zero => intro f k1 k2; omega
  | succ d ih =>
    intro f k1 k2 hI
    refine g_iload_n 2 C rfl dX1_findFirst_2 rfl ?_
    refine g_iconst C dX1_findFirst_3 ?_
    refine g_aload_n 0 C rfl dX1_findFirst_4 rfl ?_
    refine gf_X1_15 C dX1_findFirst_5 ?_
    refine gf_X1_27 C dX1_findFirst_8 ?_
    rw [show σ 1 0 = (nn : Int) from hn]
    refine g_imul C dX1_findFirst_11 ?_
    refine g_iconst C dX1_findFirst_12 ?_
    refine g_iadd C dX1_findFirst_13 ?_
    refine g_icmp_gt 114 C (by unfold I32; omega) (by unfold I32; omega) dX1_findFirst_14 (by decide) (fun h1 => ?_) (fun h1 => ?_)
    · refine g_iconst C dX1_findFirst_114 ?_
      refine g_zret (u := σ) C T dX1_findFirst_115 (by omega) ?_
      exact ⟨_, rfl, Or.inr ⟨rfl, rfl, hI.mono (fun f' q' r' k => by unfold SeenFF at *; omega)⟩⟩
    · refine g_iload_n 2 C rfl dX1_findFirst_17 rfl ?_
      refine g_iconst C dX1_findFirst_18 ?_
      refine g_idiv C dX1_findFirst_19 (by unfold I32; omega) (by unfold I32; omega) (by omega) ?_
      refine g_iname (fun w2 ew2 => ?_)
      refine g_istore_n (lv' := [(0, .ref (q 12)), (1, .int (iZ 3)), (2, .int (iZ (f : Int))), (3, .int (iZ w2))]) [1, 2, 3, 0] C dX1_findFirst_20 rfl (by decide) rfl ?_
      refine g_iload_n 3 C rfl dX1_findFirst_21 rfl ?_
      refine g_iconst C dX1_findFirst_22 ?_
      refine g_iadd C dX1_findFirst_23 ?_
      refine g_iname (fun w3 ew3 => ?_)
      refine g_istore (lv' := [(0, .ref (q 12)), (1, .int (iZ 3)), (2, .int (iZ (f : Int))), (3, .int (iZ w2)), (4, .int (iZ w3))]) [1, 2, 3, 4, 0] C dX1_findFirst_24 (by decide) rfl ?_
      obtain rfl : w2 = ((f / 2 : Nat) : Int) := by rw [ew2]; exact (Int.ofNat_tdiv f 2).symm
      subst ew3
      refine ff2_3 hn hn2 hn6 hx hl hm (by omega) C T (fun q9 hI2 => ?_) (nn + 2) (f / 2 + 1) (by omega) (by omega) (by omega) (hI.mono (fun f' q' r' k => by unfold SeenFF at *; omega))
      refine g_iinc (lv' := [(0, .ref (q 12)), (1, .int (iZ 3)), (2, .int (iZ ((f : Int) + 1))), (3, .int (iZ ((f / 2 : Nat) : Int))), (4, .int (iZ (q9 : Int)))]) 2 [1, 2, 0, 3, 4] C rfl dX1_findFirst_108 (by decide) rfl ?_
      refine g_goto 2 C dX1_findFirst_111 (by decide) ?_
      refine g_lv [0, 1, 2] rfl ?_
      exact ih (f + 1) (by omega) (by omega) (hI2.mono (fun f' q' r' k => by unfold SeenFF at *; omega))
set_option maxHeartbeats 4000000 in
set_option maxRecDepth 20000 in
theorem c_X1_findFirst3 (g : Gx) {q : Nat → Nat} {σ : Nat → Nat → Int} {nn : Nat} (hn : σ 1 0 = (nn : Int)) (hn2 : 2 ≤ nn) (hn6 : nn ≤ 6) (hx : ∀ i, i ≤ nn → 0 ≤ σ 2 i ∧ σ 2 i ≤ 20) (hl : ∀ i, i ≤ nn → Bd (σ 3 i) 20 ∧ Bd (σ 4 i) 20) (hm : ∀ i, i ≤ nn → Bd (σ 6 i) 40000) : MC g yX1_findFirst cX1_findFirst 6 ((some .boolean)) 4 104 (WC g q σ) [.ref (q 12), .int (iZ 3)] (fun u => WC g q u) (pI (fun z u => FFp (Hit3 σ nn) (No3 σ nn) σ nn z u)) := by
  refine MC_intro (own := RX1) rfl (by decide) (Nat.le_of_ble_eq_true rfl) (fun K C T => ?_)
  show GJ g K (WC g q σ) 0 [(0, .ref (q 12)), (1, .int (iZ 3))] []
  refine g_iconst C dX1_findFirst_0 ?_
  refine g_istore_n (lv' := [(0, .ref (q 12)), (1, .int (iZ 3)), (2, .int (iZ 0))]) [1, 2, 0] C dX1_findFirst_1 rfl (by decide) rfl ?_
  exact ff1_3 hn hn2 hn6 hx hl hm C T (2 * nn + 3) 0 (by omega) (by omega) (fun f' q' r' k => by unfold SeenFF at k; omega)
set_option maxHeartbeats 4000000 in
set_option maxRecDepth 20000 in
theorem ff3_4 {g : Gx} {K : Kx} {q : Nat → Nat} {σ : Nat → Nat → Int} {nn : Nat} (hn : σ 1 0 = (nn : Int)) (hn2 : 2 ≤ nn) (hn6 : nn ≤ 6) (hx : ∀ i, i ≤ nn → 0 ≤ σ 2 i ∧ σ 2 i ≤ 20) (hl : ∀ i, i ≤ nn → Bd (σ 3 i) 20 ∧ Bd (σ 4 i) 20) (hm : ∀ i, i ≤ nn → Bd (σ 6 i) 40000) {f q2 : Nat} (hf : f ≤ 2 * nn + 1) (hq2 : f / 2 < q2) (hq3 : q2 < nn) (C : CX g K cX1_findFirst RX1 6 4 104) (T : RT g K (some .boolean) (fun u => WC g q u) (pI (fun z u => FFp (Hit4 σ nn) (No4 σ nn) σ nn z u))) (hk : Fz (No4 σ nn) nn f q2 (nn + 1) → GJ g K (WC g q σ) 102 [(0, .ref (q 12)), (1, .int (iZ 4)), (2, .int (iZ (f : Int))), (3, .int (iZ ((f / 2 : Nat) : Int))), (4, .int (iZ (q2 : Int))), (5, .int (iZ ((nn + 1 : Nat) : Int)))] []) : ∀ (d r : Nat), q2 < r → r ≤ nn + 1 → nn + 1 < r + d → Fz (No4 σ nn) nn f q2 r → GJ g K (WC g q σ) 44 [(0, .ref (q 12)), (1, .int (iZ 4)), (2, .int (iZ (f : Int))), (3, .int (iZ ((f / 2 : Nat) : Int))), (4, .int (iZ (q2 : Int))), (5, .int (iZ (r : Int)))] [] := by
  intro d
  induction d with
  | zero => intro r k0 k1 k2; omega
  | succ d ih =>
    intro r k0 k1 k2 hI
    refine g_iload 5 C rfl dX1_findFirst_44 ?_
    refine g_aload_n 0 C rfl dX1_findFirst_46 rfl ?_
    refine gf_X1_15 C dX1_findFirst_47 ?_
    refine gf_X1_27 C dX1_findFirst_50 ?_
    rw [show σ 1 0 = (nn : Int) from hn]
    refine g_icmp_gt 102 C (by unfold I32; omega) (by unfold I32; omega) dX1_findFirst_53 (by decide) (fun h1 => ?_) (fun h1 => ?_)
    · obtain rfl : r = nn + 1 := by omega
      exact hk hI
    · refine g_iload_n 1 C rfl dX1_findFirst_56 rfl ?_
      refine g_iconst C dX1_findFirst_57 ?_
      refine g_icmp_ne 79 C (by unfold I32; omega) (by unfold I32; omega) dX1_findFirst_58 (by decide) (fun h2 => ?_) (fun h2 => ?_)
      · refine g_aload_n 0 C rfl dX1_findFirst_79 rfl ?_
        refine g_iload_n 2 C rfl dX1_findFirst_80 rfl ?_
        refine g_iconst C dX1_findFirst_81 ?_
        refine g_irem C dX1_findFirst_82 (by unfold I32; omega) (by unfold I32; omega) (by omega) ?_
        refine g_iload_n 3 C rfl dX1_findFirst_83 rfl ?_
        refine g_iload 4 C rfl dX1_findFirst_84 ?_
        refine g_iload 5 C rfl dX1_findFirst_86 ?_
        rw [show (f : Int).tmod 2 = ((f % 2 : Nat) : Int) from (Int.ofNat_tmod f 2).symm]
        refine g_callI C (c_X1_barsFour g (σ := σ) hn hn2 hn6 hx hl hm (od := f % 2) (by omega) (p := f / 2) (q2 := q2) (r := r) (by omega) (by omega) (by omega)) gv_X1_36 yd_X1_barsFour ⟨by decide, by decide⟩ 12 1 (WD_get (by decide)) rfl rfl (Nat.le_of_ble_eq_true rfl) dX1_findFirst_88 ?_
        intro z u hz
        refine g_if_eq 96 C (by rcases hz with h | h <;> unfold I32 <;> omega) dX1_findFirst_91 (by decide) (fun h3 => ?_) (fun h3 => ?_)
        · refine g_iinc (lv' := [(0, .ref (q 12)), (1, .int (iZ 4)), (2, .int (iZ (f : Int))), (3, .int (iZ ((f / 2 : Nat) : Int))), (4, .int (iZ (q2 : Int))), (5, .int (iZ ((r : Int) + 1)))]) 5 [1, 2, 3, 4, 5, 0] C rfl dX1_findFirst_96 (by decide) rfl ?_
          refine g_goto 44 C dX1_findFirst_99 (by decide) ?_
          obtain ⟨hn9, rfl⟩ : No4 σ nn (f % 2) (f / 2) q2 r ∧ u = σ := by rcases hz with h | h; omega; exact h.2
          exact ih (r + 1) (by omega) (by omega) (by omega) (fz_step hI hn9)
        · refine g_iconst C dX1_findFirst_94 ?_
          refine g_zret (u := u) C T dX1_findFirst_95 (by omega) ?_
          rcases hz with hz | hz
          · exact ⟨_, rfl, Or.inl ⟨rfl, f, q2, r, ⟨hf, hq2, k0, by omega⟩, hz.2, hI⟩⟩
          · omega
      · exact absurd h2 (by first | decide | omega)
set_option maxHeartbeats 4000000 in
set_option maxRecDepth 20000 in
theorem ff2_4 {g : Gx} {K : Kx} {q : Nat → Nat} {σ : Nat → Nat → Int} {nn : Nat} (hn : σ 1 0 = (nn : Int)) (hn2 : 2 ≤ nn) (hn6 : nn ≤ 6) (hx : ∀ i, i ≤ nn → 0 ≤ σ 2 i ∧ σ 2 i ≤ 20) (hl : ∀ i, i ≤ nn → Bd (σ 3 i) 20 ∧ Bd (σ 4 i) 20) (hm : ∀ i, i ≤ nn → Bd (σ 6 i) 40000) {f : Nat} (hf : f ≤ 2 * nn + 1) (C : CX g K cX1_findFirst RX1 6 4 104) (T : RT g K (some .boolean) (fun u => WC g q u) (pI (fun z u => FFp (Hit4 σ nn) (No4 σ nn) σ nn z u))) (hk : ∀ q9 : Nat, Fz (No4 σ nn) nn f nn 0 → GJ g K (WC g q σ) 108 [(0, .ref (q 12)), (1, .int (iZ 4)), (2, .int (iZ (f : Int))), (3, .int (iZ ((f / 2 : Nat) : Int))), (4, .int (iZ (q9 : Int)))] []) : ∀ (d q2 : Nat), f / 2 < q2 → q2 ≤ nn + 1 → nn + 1 < q2 + d → Fz (No4 σ nn) nn f q2 0 → GJ g K (WC g q σ) 26 [(0, .ref (q 12)), (1, .int (iZ 4)), (2, .int (iZ (f : Int))), (3, .int (iZ ((f / 2 : Nat) : Int))), (4, .int (iZ (q2 : Int)))] [] := by
  intro d
  induction d with
  | zero => intro q2 k0 k1 k2; omega
  | succ d ih =>
    intro q2 k0 k1 k2 hI
    refine g_iload 4 C rfl dX1_findFirst_26 ?_
    refine g_aload_n 0 C rfl dX1_findFirst_28 rfl ?_
    refine gf_X1_15 C dX1_findFirst_29 ?_
    refine gf_X1_27 C dX1_findFirst_32 ?_
    rw [show σ 1 0 = (nn : Int) from hn]
    refine g_icmp_ge 108 C (by unfold I32; omega) (by unfold I32; omega) dX1_findFirst_35 (by decide) (fun h1 => ?_) (fun h1 => ?_)
    · exact hk q2 (hI.mono (fun f' q' r' k => by unfold SeenFF at *; omega))
    · refine g_iload 4 C rfl dX1_findFirst_38 ?_
      refine g_iconst C dX1_findFirst_40 ?_
      refine g_iadd C dX1_findFirst_41 ?_
      refine g_iname (fun w2 ew2 => ?_)
      refine g_istore (lv' := [(0, .ref (q 12)), (1, .int (iZ 4)), (2, .int (iZ (f : Int))), (3, .int (iZ ((f / 2 : Nat) : Int))), (4, .int (iZ (q2 : Int))), (5, .int (iZ w2))]) [1, 2, 3, 4, 5, 0] C dX1_findFirst_42 (by decide) rfl ?_
      subst ew2
      refine ff3_4 hn hn2 hn6 hx hl hm hf k0 (by omega) C T (fun hI2 => ?_) nn (q2 + 1) (by omega) (by omega) (by omega) (hI.mono (fun f' q' r' k => by unfold SeenFF at *; omega))
      refine g_iinc (lv' := [(0, .ref (q 12)), (1, .int (iZ 4)), (2, .int (iZ (f : Int))), (3, .int (iZ ((f / 2 : Nat) : Int))), (4, .int (iZ ((q2 : Int) + 1))), (5, .int (iZ ((nn + 1 : Nat) : Int)))]) 4 [1, 2, 3, 4, 0, 5] C rfl dX1_findFirst_102 (by decide) rfl ?_
      refine g_goto 26 C dX1_findFirst_105 (by decide) ?_
      refine g_lv [0, 1, 2, 3, 4] rfl ?_
      exact ih (q2 + 1) (by omega) (by omega) (by omega) (hI2.mono (fun f' q' r' k => by unfold SeenFF at *; omega))
set_option maxHeartbeats 4000000 in
set_option maxRecDepth 20000 in
theorem ff1_4 {g : Gx} {K : Kx} {q : Nat → Nat} {σ : Nat → Nat → Int} {nn : Nat} (hn : σ 1 0 = (nn : Int)) (hn2 : 2 ≤ nn) (hn6 : nn ≤ 6) (hx : ∀ i, i ≤ nn → 0 ≤ σ 2 i ∧ σ 2 i ≤ 20) (hl : ∀ i, i ≤ nn → Bd (σ 3 i) 20 ∧ Bd (σ 4 i) 20) (hm : ∀ i, i ≤ nn → Bd (σ 6 i) 40000) (C : CX g K cX1_findFirst RX1 6 4 104) (T : RT g K (some .boolean) (fun u => WC g q u) (pI (fun z u => FFp (Hit4 σ nn) (No4 σ nn) σ nn z u))) : ∀ (d f : Nat), f ≤ 2 * nn + 2 → 2 * nn + 2 < f + d → Fz (No4 σ nn) nn f 0 0 → GJ g K (WC g q σ) 2 [(0, .ref (q 12)), (1, .int (iZ 4)), (2, .int (iZ (f : Int)))] [] := by
  intro d
  induction d with
  | zero => intro f k1 k2; omega
  | succ d ih =>
    intro f k1 k2 hI
    refine g_iload_n 2 C rfl dX1_findFirst_2 rfl ?_
    refine g_iconst C dX1_findFirst_3 ?_
    refine g_aload_n 0 C rfl dX1_findFirst_4 rfl ?_
    refine gf_X1_15 C dX1_findFirst_5 ?_
    refine gf_X1_27 C dX1_findFirst_8 ?_
    rw [show σ 1 0 = (nn : Int) from hn]
    refine g_imul C dX1_findFirst_11 ?_
    refine g_iconst C dX1_findFirst_12 ?_
    refine g_iadd C dX1_findFirst_13 ?_
    refine g_icmp_gt 114 C (by unfold I32; omega) (by unfold I32; omega) dX1_findFirst_14 (by decide) (fun h1 => ?_) (fun h1 => ?_)
    · refine g_iconst C dX1_findFirst_114 ?_
      refine g_zret (u := σ) C T dX1_findFirst_115 (by omega) ?_
      exact ⟨_, rfl, Or.inr ⟨rfl, rfl, hI.mono (fun f' q' r' k => by unfold SeenFF at *; omega)⟩⟩
    · refine g_iload_n 2 C rfl dX1_findFirst_17 rfl ?_
      refine g_iconst C dX1_findFirst_18 ?_
      refine g_idiv C dX1_findFirst_19 (by unfold I32; omega) (by unfold I32; omega) (by omega) ?_
      refine g_iname (fun w2 ew2 => ?_)
      refine g_istore_n (lv' := [(0, .ref (q 12)), (1, .int (iZ 4)), (2, .int (iZ (f : Int))), (3, .int (iZ w2))]) [1, 2, 3, 0] C dX1_findFirst_20 rfl (by decide) rfl ?_
      refine g_iload_n 3 C rfl dX1_findFirst_21 rfl ?_
      refine g_iconst C dX1_findFirst_22 ?_
      refine g_iadd C dX1_findFirst_23 ?_
      refine g_iname (fun w3 ew3 => ?_)
      refine g_istore (lv' := [(0, .ref (q 12)), (1, .int (iZ 4)), (2, .int (iZ (f : Int))), (3, .int (iZ w2)), (4, .int (iZ w3))]) [1, 2, 3, 4, 0] C dX1_findFirst_24 (by decide) rfl ?_
      obtain rfl : w2 = ((f / 2 : Nat) : Int) := by rw [ew2]; exact (Int.ofNat_tdiv f 2).symm
      subst ew3
      refine ff2_4 hn hn2 hn6 hx hl hm (by omega) C T (fun q9 hI2 => ?_) (nn + 2) (f / 2 + 1) (by omega) (by omega) (by omega) (hI.mono (fun f' q' r' k => by unfold SeenFF at *; omega))
      refine g_iinc (lv' := [(0, .ref (q 12)), (1, .int (iZ 4)), (2, .int (iZ ((f : Int) + 1))), (3, .int (iZ ((f / 2 : Nat) : Int))), (4, .int (iZ (q9 : Int)))]) 2 [1, 2, 0, 3, 4] C rfl dX1_findFirst_108 (by decide) rfl ?_
      refine g_goto 2 C dX1_findFirst_111 (by decide) ?_
      refine g_lv [0, 1, 2] rfl ?_
      exact ih (f + 1) (by omega) (by omega) (hI2.mono (fun f' q' r' k => by unfold SeenFF at *; omega))
set_option maxHeartbeats 4000000 in
set_option maxRecDepth 20000 in
theorem c_X1_findFirst4 (g : Gx) {q : Nat → Nat} {σ : Nat → Nat → Int} {nn : Nat} (hn : σ 1 0 = (nn : Int)) (hn2 : 2 ≤ nn) (hn6 : nn ≤ 6) (hx : ∀ i, i ≤ nn → 0 ≤ σ 2 i ∧ σ 2 i ≤ 20) (hl : ∀ i, i ≤ nn → Bd (σ 3 i) 20 ∧ Bd (σ 4 i) 20) (hm : ∀ i, i ≤ nn → Bd (σ 6 i) 40000) : MC g yX1_findFirst cX1_findFirst 6 ((some .boolean)) 4 104 (WC g q σ) [.ref (q 12), .int (iZ 4)] (fun u => WC g q u) (pI (fun z u => FFp (Hit4 σ nn) (No4 σ nn) σ nn z u)) := by
  refine MC_intro (own := RX1) rfl (by decide) (Nat.le_of_ble_eq_true rfl) (fun K C T => ?_)
  show GJ g K (WC g q σ) 0 [(0, .ref (q 12)), (1, .int (iZ 4))] []
  refine g_iconst C dX1_findFirst_0 ?_
  refine g_istore_n (lv' := [(0, .ref (q 12)), (1, .int (iZ 4)), (2, .int (iZ 0))]) [1, 2, 0] C dX1_findFirst_1 rfl (by decide) rfl ?_
  exact ff1_4 hn hn2 hn6 hx hl hm C T (2 * nn + 3) 0 (by omega) (by omega) (fun f' q' r' k => by unfold SeenFF at k; omega)
/-- the first sets of three, else of four, that bar -/
def BFn (σ : Nat → Nat → Int) (nn : Nat) (u : Nat → Nat → Int) : Prop := ∃ σ0, σ0 = up σ 12 1 0 ∧ ((∃ f q r, (f ≤ 2 * nn + 1 ∧ f / 2 < q ∧ q < r ∧ r ≤ nn) ∧ Hit3 σ0 nn (f % 2) (f / 2) q r u ∧ Fz (No3 σ0 nn) nn f q r) ∨ (Fz (No3 σ0 nn) nn (2 * nn + 2) 0 0 ∧ ((∃ f q r, (f ≤ 2 * nn + 1 ∧ f / 2 < q ∧ q < r ∧ r ≤ nn) ∧ Hit4 σ0 nn (f % 2) (f / 2) q r u ∧ Fz (No4 σ0 nn) nn f q r) ∨ (u = σ0 ∧ Fz (No4 σ0 nn) nn (2 * nn + 2) 0 0))))
set_option maxHeartbeats 4000000 in
set_option maxRecDepth 20000 in
theorem c_X1_find (g : Gx) {q : Nat → Nat} {σ : Nat → Nat → Int} {nn : Nat} (hn : σ 1 0 = (nn : Int)) (hn2 : 2 ≤ nn) (hn6 : nn ≤ 6) (hx : ∀ i, i ≤ nn → 0 ≤ σ 2 i ∧ σ 2 i ≤ 20) (hl : ∀ i, i ≤ nn → Bd (σ 3 i) 20 ∧ Bd (σ 4 i) 20) (hm : ∀ i, i ≤ nn → Bd (σ 6 i) 40000) : MC g yX1_find cX1_find 1 (none) 5 129 (WC g q σ) [.ref (q 12)] (fun u => WC g q u) (pV (fun u => BFn σ nn u)) := by
  refine MC_intro (own := RX1) rfl (by decide) (Nat.le_of_ble_eq_true rfl) (fun K C T => ?_)
  show GJ g K (WC g q σ) 0 [(0, .ref (q 12))] []
  refine g_aload_n 0 C rfl dX1_find_0 rfl ?_
  refine g_iconst C dX1_find_1 ?_
  refine pf_X1_19 C dX1_find_2 ?_
  refine g_aload_n 0 C rfl dX1_find_5 rfl ?_
  refine g_iconst C dX1_find_6 ?_
  refine g_callI C (c_X1_findFirst3 g (σ := up σ 12 1 0) (nn := nn) (by rw [up_c (by decide)]; exact hn) hn2 hn6 (by rw [up_c (by decide)]; exact hx) (by rw [up_c (by decide), up_c (by decide)]; exact hl) (by rw [up_c (by decide)]; exact hm)) gv_X1_23 yd_X1_findFirst ⟨by decide, by decide⟩ 12 1 (WD_get (by decide)) rfl rfl (Nat.le_of_ble_eq_true rfl) dX1_find_7 ?_
  intro z u hz
  refine g_if_ne 19 C (by rcases hz with h | h <;> unfold I32 <;> omega) dX1_find_10 (by decide) (fun h1 => ?_) (fun h1 => ?_)
  · refine g_vret (u := u) C T dX1_find_19 ?_
    refine ⟨rfl, _, rfl, Or.inl ?_⟩
    rcases hz with h | h
    · exact h.2
    · omega
  · obtain ⟨hu, hz3⟩ : u = up σ 12 1 0 ∧ Fz (No3 (up σ 12 1 0) nn) nn (2 * nn + 2) 0 0 := by rcases hz with h | h; omega; exact h.2
    subst hu
    refine g_aload_n 0 C rfl dX1_find_13 rfl ?_
    refine g_iconst C dX1_find_14 ?_
    refine g_callI C (c_X1_findFirst4 g (σ := up σ 12 1 0) (nn := nn) (by rw [up_c (by decide)]; exact hn) hn2 hn6 (by rw [up_c (by decide)]; exact hx) (by rw [up_c (by decide), up_c (by decide)]; exact hl) (by rw [up_c (by decide)]; exact hm)) gv_X1_23 yd_X1_findFirst ⟨by decide, by decide⟩ 12 1 (WD_get (by decide)) rfl rfl (Nat.le_of_ble_eq_true rfl) dX1_find_15 ?_
    intro z' u' hz'
    refine g_pop C dX1_find_18 rfl ?_
    refine g_vret (u := u') C T dX1_find_19 ?_
    refine ⟨rfl, _, rfl, Or.inr ⟨hz3, ?_⟩⟩
    rcases hz' with h | h
    · exact Or.inl h.2
    · exact Or.inr h.2
