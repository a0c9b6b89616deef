def lnC (σ : Nat → Nat → Int) (s : Nat) : Int := if σ (15 + s) 0 = 0 then -1 else σ (15 + s) 1
def szC (σ : Nat → Nat → Int) (s : Nat) : Int := σ (15 + s) 2
def HSh (σ : Nat → Nat → Int) : Prop := ∀ s, s < 4 → (σ (15 + s) 0 = 0 ∨ σ (15 + s) 0 = 1) ∧ (0 ≤ σ (15 + s) 1 ∧ σ (15 + s) 1 ≤ 2) ∧ (0 ≤ σ (15 + s) 2 ∧ σ (15 + s) 2 ≤ 28)
def rfC (σ : Nat → Nat → Int) (s l : Int) : Int := if ¬ ((0 ≤ s ∧ s ≤ 3) ∧ (0 ≤ l ∧ l ≤ 2)) then -1 else if σ (15 + s.toNat) 0 = 0 then -11 else if σ (15 + s.toNat) 1 = l then 0 else -12
set_option maxHeartbeats 4000000 in
set_option maxRecDepth 20000 in
theorem c_X6_refusalOfRow (g : Gx) {q : Nat → Nat} {σ : Nat → Nat → Int} (hsh : HSh σ) {sa la : Int} (h_sa : I32 sa) (h_la : I32 la) : MC g yX6_refusalOfRow cX6_refusalOfRow 3 ((some .int)) 1 20 (WC g q σ) [.ref (q 0), .int (iZ sa), .int (iZ la)] (fun _ : Unit => WC g q σ) (pI (fun z _ => z = rfC σ sa la)) := by
  refine MC_intro (own := RX6) rfl (by decide) (Nat.le_of_ble_eq_true rfl) (fun K C T => ?_)
  show GJ g K (WC g q σ) 0 [(0, .ref (q 0)), (1, .int (iZ sa)), (2, .int (iZ la))] []
  refine g_iload_n 1 C rfl dX6_refusalOfRow_0 rfl ?_
  refine g_callSI C (c_X6_isSheet g h_sa) gs_X6_94 yd_X6_isSheet ⟨by decide, by decide⟩ rfl (Nat.le_of_ble_eq_true rfl) dX6_refusalOfRow_1 ?_
  rintro _ rfl
  refine g_beq 14 C dX6_refusalOfRow_4 (by decide) (fun h1 => ?_) (fun h1 => ?_)
  · refine g_iconst C dX6_refusalOfRow_14 ?_
    refine g_iret (u := ()) C T dX6_refusalOfRow_15 ?_
    refine ⟨_, rfl, ?_⟩
    unfold rfC
    (repeat' split) <;> first | rfl | (exfalso; omega)
  · refine g_iload_n 2 C rfl dX6_refusalOfRow_7 rfl ?_
    refine g_callSI C (c_X6_isLane g h_la) gs_X6_97 yd_X6_isLane ⟨by decide, by decide⟩ rfl (Nat.le_of_ble_eq_true rfl) dX6_refusalOfRow_8 ?_
    rintro _ rfl
    refine g_bne 16 C dX6_refusalOfRow_11 (by decide) (fun h2 => ?_) (fun h2 => ?_)
    · refine g_aload_n 0 C rfl dX6_refusalOfRow_16 rfl ?_
      refine gf_X6_41 C dX6_refusalOfRow_17 ?_
      refine g_iload_n 1 C rfl dX6_refusalOfRow_20 rfl ?_
      refine g_sheet C ((sa).toNat) (by omega) (by omega) dX6_refusalOfRow_21 ?_
      refine gf_X6_104 (by omega) C dX6_refusalOfRow_22 ?_
      refine g_if_ne 31 C (by have h5 := hsh sa.toNat (by omega); unfold I32; omega) dX6_refusalOfRow_25 (by decide) (fun h3 => ?_) (fun h3 => ?_)
      · refine g_aload_n 0 C rfl dX6_refusalOfRow_31 rfl ?_
        refine gf_X6_41 C dX6_refusalOfRow_32 ?_
        refine g_iload_n 1 C rfl dX6_refusalOfRow_35 rfl ?_
        refine g_sheet C ((sa).toNat) (by omega) (by omega) dX6_refusalOfRow_36 ?_
        refine gf_X6_217 (by omega) C dX6_refusalOfRow_37 ?_
        refine g_iload_n 2 C rfl dX6_refusalOfRow_40 rfl ?_
        refine g_icmp_ne 48 C (by have h5 := hsh sa.toNat (by omega); unfold I32; omega) h_la dX6_refusalOfRow_41 (by decide) (fun h4 => ?_) (fun h4 => ?_)
        · refine g_bipush C dX6_refusalOfRow_48 (by decide) ?_
          refine g_iret (u := ()) C T dX6_refusalOfRow_50 ?_
          refine ⟨_, rfl, ?_⟩
          unfold rfC
          (repeat' split) <;> first | rfl | (exfalso; omega)
        · refine g_iconst C dX6_refusalOfRow_44 ?_
          refine g_goto 50 C dX6_refusalOfRow_45 (by decide) ?_
          refine g_iret (u := ()) C T dX6_refusalOfRow_50 ?_
          refine ⟨_, rfl, ?_⟩
          unfold rfC
          (repeat' split) <;> first | rfl | (exfalso; omega)
      · refine g_bipush C dX6_refusalOfRow_28 (by decide) ?_
        refine g_iret (u := ()) C T dX6_refusalOfRow_30 ?_
        refine ⟨_, rfl, ?_⟩
        unfold rfC
        (repeat' split) <;> first | rfl | (exfalso; omega)
    · refine g_iconst C dX6_refusalOfRow_14 ?_
      refine g_iret (u := ()) C T dX6_refusalOfRow_15 ?_
      refine ⟨_, rfl, ?_⟩
      unfold rfC
      (repeat' split) <;> first | rfl | (exfalso; omega)
set_option maxHeartbeats 4000000 in
set_option maxRecDepth 20000 in
theorem c_X6_drop (g : Gx) {q : Nat → Nat} {σ : Nat → Nat → Int} (hsh : HSh σ) {sa : Int} (h_sa : I32 sa) : MC g yX6_drop cX6_drop 2 ((some .int)) 1 20 (WC g q σ) [.ref (q 0), .int (iZ sa)] (fun u => WC g q u) (pI (fun z u => (¬ (0 ≤ sa ∧ sa ≤ 3) ∧ z = -1 ∧ u = σ) ∨ ((0 ≤ sa ∧ sa ≤ 3) ∧ ((σ (15 + sa.toNat) 0 = 0 ∧ z = -11 ∧ u = σ) ∨ (σ (15 + sa.toNat) 0 ≠ 0 ∧ z = σ (15 + sa.toNat) 2 ∧ u = up σ (15 + sa.toNat) 0 0))))) := by
  refine MC_intro (own := RX6) rfl (by decide) (Nat.le_of_ble_eq_true rfl) (fun K C T => ?_)
  show GJ g K (WC g q σ) 0 [(0, .ref (q 0)), (1, .int (iZ sa))] []
  refine g_iload_n 1 C rfl dX6_drop_0 rfl ?_
  refine g_callSI C (c_X6_isSheet g h_sa) gs_X6_94 yd_X6_isSheet ⟨by decide, by decide⟩ rfl (Nat.le_of_ble_eq_true rfl) dX6_drop_1 ?_
  rintro _ rfl
  refine g_bne 9 C dX6_drop_4 (by decide) (fun h1 => ?_) (fun h1 => ?_)
  · refine g_aload_n 0 C rfl dX6_drop_9 rfl ?_
    refine gf_X6_41 C dX6_drop_10 ?_
    refine g_iload_n 1 C rfl dX6_drop_13 rfl ?_
    refine g_sheet C ((sa).toNat) (by omega) (by omega) dX6_drop_14 ?_
    refine gf_X6_104 (by omega) C dX6_drop_15 ?_
    refine g_if_ne 24 C (by have h5 := hsh sa.toNat (by omega); unfold I32; omega) dX6_drop_18 (by decide) (fun h2 => ?_) (fun h2 => ?_)
    · refine g_aload_n 0 C rfl dX6_drop_24 rfl ?_
      refine gf_X6_41 C dX6_drop_25 ?_
      refine g_iload_n 1 C rfl dX6_drop_28 rfl ?_
      refine g_sheet C ((sa).toNat) (by omega) (by omega) dX6_drop_29 ?_
      refine g_iconst C dX6_drop_30 ?_
      refine pf_X6_104 (by omega) (by omega) C dX6_drop_31 ?_
      refine g_aload_n 0 C rfl dX6_drop_34 rfl ?_
      refine gf_X6_41 C dX6_drop_35 ?_
      refine g_iload_n 1 C rfl dX6_drop_38 rfl ?_
      refine g_sheet C ((sa).toNat) (by omega) (by omega) dX6_drop_39 ?_
      refine gf_X6_108 (by omega) C dX6_drop_40 ?_
      rw [show (up σ (15 + ((sa).toNat)) 0 0) (15 + ((sa).toNat)) 2 = σ (15 + ((sa).toNat)) 2 from up_k (by decide)]
      refine g_iret (u := (up σ (15 + ((sa).toNat)) 0 0)) C T dX6_drop_43 ?_
      exact ⟨_, rfl, Or.inr ⟨by omega, Or.inr ⟨by omega, rfl, rfl⟩⟩⟩
    · refine g_bipush C dX6_drop_21 (by decide) ?_
      refine g_iret (u := σ) C T dX6_drop_23 ?_
      exact ⟨_, rfl, Or.inr ⟨by omega, Or.inl ⟨by omega, rfl, rfl⟩⟩⟩
  · refine g_iconst C dX6_drop_7 ?_
    refine g_iret (u := σ) C T dX6_drop_8 ?_
    exact ⟨_, rfl, Or.inl ⟨by omega, rfl, rfl⟩⟩
theorem rfC_I {σ : Nat → Nat → Int} {s l : Int} : I32 (rfC σ s l) := by
  unfold rfC I32
  (repeat' split) <;> decide
theorem rfC_0 {σ : Nat → Nat → Int} {s l : Int} : rfC σ s l = 0 ↔ ((0 ≤ s ∧ s ≤ 3) ∧ (0 ≤ l ∧ l ≤ 2)) ∧ σ (15 + s.toNat) 0 ≠ 0 ∧ σ (15 + s.toNat) 1 = l := by
  unfold rfC
  (repeat' split) <;> first | (constructor <;> intro h <;> omega) | omega
theorem rfC_n {σ : Nat → Nat → Int} {s l i : Int} (h : rfC σ s l ≠ 0) (hl : HSh σ) : itC (lnC σ) (szC σ) s l i = rfC σ s l ∧ ∀ n : Nat, itR (lnC σ) (szC σ) n s l i = rfC σ s l := by
  have h9 : (0 ≤ s ∧ s ≤ 3) → 0 ≤ σ (15 + s.toNat) 1 := fun hs => (hl s.toNat (by omega)).2.1.1
  constructor
  · unfold rfC at h ⊢
    unfold itC lnC
    (repeat' split) <;> first | rfl | (exfalso; omega)
  · intro n
    unfold rfC at h ⊢
    unfold itR lnC
    (repeat' split) <;> first | rfl | (exfalso; omega)
theorem rfC_y {σ : Nat → Nat → Int} {s l : Int} (h : rfC σ s l = 0) : ((0 ≤ s ∧ s ≤ 3) ∧ (0 ≤ l ∧ l ≤ 2)) ∧ lnC σ s.toNat = l := by
  have := rfC_0.mp h
  refine ⟨this.1, ?_⟩
  unfold lnC
  rw [if_neg this.2.1]
  exact this.2.2
set_option maxHeartbeats 4000000 in
set_option maxRecDepth 20000 in
theorem c_X6_item (g : Gx) {q : Nat → Nat} {σ : Nat → Nat → Int} (hsh : HSh σ) {sa la ia va : Int} (h_sa : I32 sa) (h_la : I32 la) (h_ia : I32 ia) (h_va : I32 va) : MC g yX6_item cX6_item 7 ((some .int)) 2 42 (WC g q σ) [.ref (q 0), .int (iZ sa), .int (iZ la), .int (iZ ia), .int (iZ va)] (fun u => WC g q u) (pI (fun z u => z = itC (lnC σ) (szC σ) sa la ia ∧ ((z ≠ 1 ∧ u = σ) ∨ (z = 1 ∧ u = up σ (15 + sa.toNat + 4) ia.toNat (if la = 0 then bytZ va else va))))) := by
  refine MC_intro (own := RX6) rfl (by decide) (Nat.le_of_ble_eq_true rfl) (fun K C T => ?_)
  show GJ g K (WC g q σ) 0 [(0, .ref (q 0)), (1, .int (iZ sa)), (2, .int (iZ la)), (3, .int (iZ ia)), (4, .int (iZ va))] []
  refine g_aload_n 0 C rfl dX6_item_0 rfl ?_
  refine g_iload_n 1 C rfl dX6_item_1 rfl ?_
  refine g_iload_n 2 C rfl dX6_item_2 rfl ?_
  refine g_callI C (c_X6_refusalOfRow g (σ := σ) hsh h_sa h_la) gv_X6_111 yd_X6_refusalOfRow ⟨by decide, by decide⟩ 0 6 (WD_get (by decide)) rfl rfl (Nat.le_of_ble_eq_true rfl) dX6_item_3 ?_
  rintro _ _ rfl
  refine g_iname (fun w1 ew1 => ?_)
  refine g_istore (lv' := [(0, .ref (q 0)), (1, .int (iZ sa)), (2, .int (iZ la)), (3, .int (iZ ia)), (4, .int (iZ va)), (5, .int (iZ w1))]) [1, 2, 3, 4, 5, 0] C dX6_item_6 (by decide) rfl ?_
  refine g_iload 5 C rfl dX6_item_8 ?_
  refine g_if_eq 16 C (by rw [ew1]; exact rfC_I) dX6_item_10 (by decide) (fun h2 => ?_) (fun h2 => ?_)
  · have hr0 : rfC σ sa la = 0 := by rw [← ew1]; omega
    have hr1 := rfC_y hr0
    have hr2 := hsh sa.toNat (by omega)
    refine g_aload_n 0 C rfl dX6_item_16 rfl ?_
    refine gf_X6_41 C dX6_item_17 ?_
    refine g_iload_n 1 C rfl dX6_item_20 rfl ?_
    refine g_sheet C ((sa).toNat) (by omega) (by omega) dX6_item_21 ?_
    refine g_astore (lv' := [(0, .ref (q 0)), (1, .int (iZ sa)), (2, .int (iZ la)), (3, .int (iZ ia)), (4, .int (iZ va)), (5, .int (iZ w1)), (6, .ref (q (15 + ((sa).toNat))))]) [1, 2, 3, 4, 5, 6, 0] C dX6_item_22 (by decide) rfl ?_
    refine g_iload_n 3 C rfl dX6_item_24 rfl ?_
    refine g_if_lt 37 C h_ia dX6_item_25 (by decide) (fun h3 => ?_) (fun h3 => ?_)
    · refine g_bipush C dX6_item_37 (by decide) ?_
      refine g_iret (u := σ) C T dX6_item_39 ?_
      have e8 : itC (lnC σ) (szC σ) sa la ia = -13 := by unfold itC szC; rw [if_neg (by omega), if_neg (by omega), if_pos (by omega)]
      exact ⟨_, rfl, e8.symm, Or.inl ⟨by decide, rfl⟩⟩
    · refine g_iload_n 3 C rfl dX6_item_28 rfl ?_
      refine g_aload 6 C rfl dX6_item_29 ?_
      refine gf_X6_108 (by omega) C dX6_item_31 ?_
      refine g_icmp_lt 40 C h_ia (by have h5 := hsh sa.toNat (by omega); unfold I32; omega) dX6_item_34 (by decide) (fun h4 => ?_) (fun h4 => ?_)
      · refine g_aload 6 C rfl dX6_item_40 ?_
        refine gf_X6_115 (by omega) C dX6_item_42 ?_
        refine g_iload_n 3 C rfl dX6_item_45 rfl ?_
        refine g_iload_n 2 C rfl dX6_item_46 rfl ?_
        refine g_if_ne 56 C h_la dX6_item_47 (by decide) (fun h5 => ?_) (fun h5 => ?_)
        · refine g_iload 4 C rfl dX6_item_56 ?_
          refine g_iast C (15 + ((sa).toNat) + 4) ((ia).toNat) (by omega) (fun f => EC_items (by omega) f) (by omega) (by omega) (by decide) dX6_item_58 ?_
          refine g_iconst C dX6_item_59 ?_
          refine g_iret (u := (up σ (15 + ((sa).toNat) + 4) ((ia).toNat) va)) C T dX6_item_60 ?_
          have e8 : itC (lnC σ) (szC σ) sa la ia = 1 := by unfold itC szC; rw [if_neg (by omega), if_neg (by omega), if_neg (by omega)]
          refine ⟨_, rfl, e8.symm, Or.inr ⟨rfl, ?_⟩⟩
          first | rw [if_pos (by omega)] | rw [if_neg (by omega)]
        · refine g_iload 4 C rfl dX6_item_50 ?_
          refine g_i2b C dX6_item_52 ?_
          refine g_goto 58 C dX6_item_53 (by decide) ?_
          refine g_iast C (15 + ((sa).toNat) + 4) ((ia).toNat) (by omega) (fun f => EC_items (by omega) f) (by omega) (by omega) (by decide) dX6_item_58 ?_
          refine g_iconst C dX6_item_59 ?_
          refine g_iret (u := (up σ (15 + ((sa).toNat) + 4) ((ia).toNat) (bytZ va))) C T dX6_item_60 ?_
          have e8 : itC (lnC σ) (szC σ) sa la ia = 1 := by unfold itC szC; rw [if_neg (by omega), if_neg (by omega), if_neg (by omega)]
          refine ⟨_, rfl, e8.symm, Or.inr ⟨rfl, ?_⟩⟩
          first | rw [if_pos (by omega)] | rw [if_neg (by omega)]
      · refine g_bipush C dX6_item_37 (by decide) ?_
        refine g_iret (u := σ) C T dX6_item_39 ?_
        have e8 : itC (lnC σ) (szC σ) sa la ia = -13 := by unfold itC szC; rw [if_neg (by omega), if_neg (by omega), if_pos (by omega)]
        exact ⟨_, rfl, e8.symm, Or.inl ⟨by decide, rfl⟩⟩
  · refine g_iload 5 C rfl dX6_item_13 ?_
    refine g_iret (u := σ) C T dX6_item_15 ?_
    subst ew1
    refine ⟨_, rfl, (rfC_n (by omega) hsh).1.symm, Or.inl ⟨?_, rfl⟩⟩
    unfold rfC
    (repeat' split) <;> decide
def zer (n : Nat) (f : Nat → Int) : Nat → Int := fun j => if j < n then 0 else f j
def FlI (σ τ : Nat → Nat → Int) (c i : Nat) : Prop := (∀ c', c' ≠ c → τ c' = σ c') ∧ ∀ j, τ c j = if j < i then 0 else σ c j
theorem fl_s {σ τ : Nat → Nat → Int} {c i : Nat} (h : FlI σ τ c i) : FlI σ (up τ c i 0) c (i + 1) := by
  refine ⟨fun c' hc => by rw [up_c hc]; exact h.1 c' hc, fun j => ?_⟩
  by_cases he : j = i
  · subst he; rw [up_s, if_pos (by omega)]
  · rw [up_k he, h.2 j]
    by_cases h2 : j < i
    · rw [if_pos h2, if_pos (by omega)]
    · rw [if_neg h2, if_neg (by omega)]
theorem fl_e {σ τ : Nat → Nat → Int} {c n : Nat} (h : FlI σ τ c n) : τ = upf σ c (zer n (σ c)) := by
  funext c' j
  by_cases hc : c' = c
  · subst hc; simp only [upf, if_true, zer]; exact h.2 j
  · simp only [upf, if_neg hc]; rw [h.1 c' hc]
set_option maxHeartbeats 4000000 in
set_option maxRecDepth 20000 in
theorem lp_J7_fill {g : Gx} {K : Kx} {q : Nat → Nat} {σ : Nat → Nat → Int} {c : Nat} (hc : 19 ≤ c ∧ c < 23) (C : CX g K cJ7_fill_53178 RJ7 4 0 0) (T : RT g K none (fun u => WC g q u) (pV (fun u => u = upf σ c (zer 28 (σ c))))) : ∀ (d i : Nat), i ≤ 28 → 28 < i + d → ∀ τ : Nat → Nat → Int, FlI σ τ c i → GJ g K (WC g q τ) 5 [(0, .ref (q c)), (1, .int (iZ 0)), (2, .int (iZ (i : Int))), (3, .int (iZ 28))] [] := by
  intro d
  induction d with
  | zero => intro i k1 k2; omega
  | succ d ih =>
    intro i k1 k2 τ hI
    refine g_iload_n 2 C rfl dJ7_fill_53178_5 rfl ?_
    refine g_iload_n 3 C rfl dJ7_fill_53178_6 rfl ?_
    refine g_icmp_ge 20 C (by unfold I32; omega) (by unfold I32; omega) dJ7_fill_53178_7 (by decide) (fun h1 => ?_) (fun h1 => ?_)
    · refine g_vret (u := τ) C T dJ7_fill_53178_20 ?_
      obtain rfl : i = 28 := by omega
      exact ⟨rfl, fl_e hI⟩
    · refine g_aload_n 0 C rfl dJ7_fill_53178_10 rfl ?_
      refine g_iload_n 2 C rfl dJ7_fill_53178_11 rfl ?_
      refine g_iload_n 1 C rfl dJ7_fill_53178_12 rfl ?_
      refine g_iast C c i (by omega) (fun f => EC_items hc f) (by omega) (by omega) (by decide) dJ7_fill_53178_13 ?_
      refine g_iinc (lv' := [(0, .ref (q c)), (1, .int (iZ 0)), (2, .int (iZ ((i : Int) + 1))), (3, .int (iZ 28))]) 2 [1, 2, 0, 3] C rfl dJ7_fill_53178_14 (by decide) rfl ?_
      refine g_goto 5 C dJ7_fill_53178_17 (by decide) ?_
      exact ih (i + 1) (by omega) (by omega) _ (fl_s hI)
set_option maxHeartbeats 4000000 in
set_option maxRecDepth 20000 in
theorem c_J7_fill (g : Gx) {q : Nat → Nat} {σ : Nat → Nat → Int} {c : Nat} (hc : 19 ≤ c ∧ c < 23) : MC g yJ7_fill_53178 cJ7_fill_53178 4 (none) 0 0 (WC g q σ) [.ref (q c), .int (iZ 0)] (fun u => WC g q u) (pV (fun u => u = upf σ c (zer 28 (σ c)))) := by
  refine MC_intro (own := RJ7) rfl (by decide) (Nat.le_of_ble_eq_true rfl) (fun K C T => ?_)
  show GJ g K (WC g q σ) 0 [(0, .ref (q c)), (1, .int (iZ 0))] []
  refine g_iconst C dJ7_fill_53178_0 ?_
  refine g_istore_n (lv' := [(0, .ref (q c)), (1, .int (iZ 0)), (2, .int (iZ 0))]) [1, 2, 0] C dJ7_fill_53178_1 rfl (by decide) rfl ?_
  refine g_aload_n 0 C rfl dJ7_fill_53178_2 rfl ?_
  refine g_alen (z := 28) C c (by omega) (fun f => EC_items hc f) (by decide +kernel) dJ7_fill_53178_3 ?_
  refine g_istore_n (lv' := [(0, .ref (q c)), (1, .int (iZ 0)), (2, .int (iZ 0)), (3, .int (iZ 28))]) [1, 2, 3, 0] C dJ7_fill_53178_4 rfl (by decide) rfl ?_
  exact lp_J7_fill hc C T 29 0 (by omega) (by omega) σ ⟨fun _ _ => rfl, fun j => by rw [if_neg (by omega)]⟩
def hdS (σ : Nat → Nat → Int) (c : Nat) (la na : Int) : Nat → Nat → Int := upf (up (up (up σ c 0 1) c 1 la) c 2 na) (c + 4) (zer 28 (σ (c + 4)))
set_option maxHeartbeats 4000000 in
set_option maxRecDepth 20000 in
theorem c_X4_hold (g : Gx) {q : Nat → Nat} {σ : Nat → Nat → Int} {c : Nat} (hc : 15 ≤ c ∧ c < 19) {la na : Int} : MC g yX4_hold cX4_hold 3 (none) 1 23 (WC g q σ) [.ref (q c), .int (iZ la), .int (iZ na)] (fun u => WC g q u) (pV (fun u => u = hdS σ c la na)) := by
  refine MC_intro (own := RX4) rfl (by decide) (Nat.le_of_ble_eq_true rfl) (fun K C T => ?_)
  show GJ g K (WC g q σ) 0 [(0, .ref (q c)), (1, .int (iZ la)), (2, .int (iZ na))] []
  refine g_aload_n 0 C rfl dX4_hold_0 rfl ?_
  refine g_iconst C dX4_hold_1 ?_
  refine pf_X4_15 hc (by omega) C dX4_hold_2 ?_
  refine g_aload_n 0 C rfl dX4_hold_5 rfl ?_
  refine g_iload_n 1 C rfl dX4_hold_6 rfl ?_
  refine pf_X4_19 hc C dX4_hold_7 ?_
  refine g_aload_n 0 C rfl dX4_hold_10 rfl ?_
  refine g_iload_n 2 C rfl dX4_hold_11 rfl ?_
  refine pf_X4_23 hc C dX4_hold_12 ?_
  refine g_aload_n 0 C rfl dX4_hold_15 rfl ?_
  refine gf_X4_9 hc C dX4_hold_16 ?_
  refine g_iconst C dX4_hold_19 ?_
  refine g_callSW C (c_J7_fill g (σ := (up (up (up σ c 0 1) c 1 la) c 2 na)) (c := c + 4) (by omega)) wm_X4_26 wst_J7_fill_53178 win_J7 wc_J7_fill_53178 ⟨by decide, by decide, rfl⟩ ⟨by decide, by decide⟩ rfl (Nat.le_of_ble_eq_true rfl) dX4_hold_20 ?_
  rintro _ u ⟨rfl, rfl⟩
  refine g_vret (u := (upf (up (up (up σ c 0 1) c 1 la) c 2 na) (c + 4) (zer 28 ((up (up (up σ c 0 1) c 1 la) c 2 na) (c + 4))))) C T dX4_hold_23 ?_
  refine ⟨rfl, ?_⟩
  unfold hdS
  rw [up_c (show c + 4 ≠ c by omega), up_c (show c + 4 ≠ c by omega), up_c (show c + 4 ≠ c by omega)]
set_option maxHeartbeats 4000000 in
set_option maxRecDepth 20000 in
theorem c_X6_sheet (g : Gx) {q : Nat → Nat} {σ : Nat → Nat → Int} {sa la na : Int} (h_sa : I32 sa) (h_la : I32 la) (h_na : I32 na) : MC g yX6_sheet cX6_sheet 4 ((some .int)) 2 45 (WC g q σ) [.ref (q 0), .int (iZ sa), .int (iZ la), .int (iZ na)] (fun u => WC g q u) (pI (fun z u => (¬ (((0 ≤ sa ∧ sa ≤ 3) ∧ (0 ≤ la ∧ la ≤ 2)) ∧ na ≤ 28) ∧ z = -1 ∧ u = σ) ∨ ((((0 ≤ sa ∧ sa ≤ 3) ∧ (0 ≤ la ∧ la ≤ 2)) ∧ na ≤ 28) ∧ ((na < 0 ∧ z = -14 ∧ u = σ) ∨ (0 ≤ na ∧ z = na ∧ u = hdS σ (15 + sa.toNat) la na))))) := by
  refine MC_intro (own := RX6) rfl (by decide) (Nat.le_of_ble_eq_true rfl) (fun K C T => ?_)
  show GJ g K (WC g q σ) 0 [(0, .ref (q 0)), (1, .int (iZ sa)), (2, .int (iZ la)), (3, .int (iZ na))] []
  refine g_iload_n 1 C rfl dX6_sheet_0 rfl ?_
  refine g_callSI C (c_X6_isSheet g h_sa) gs_X6_94 yd_X6_isSheet ⟨by decide, by decide⟩ rfl (Nat.le_of_ble_eq_true rfl) dX6_sheet_1 ?_
  rintro _ rfl
  refine g_beq 20 C dX6_sheet_4 (by decide) (fun h1 => ?_) (fun h1 => ?_)
  · refine g_iconst C dX6_sheet_20 ?_
    refine g_iret (u := σ) C T dX6_sheet_21 ?_
    exact ⟨_, rfl, Or.inl ⟨by omega, rfl, rfl⟩⟩
  · refine g_iload_n 2 C rfl dX6_sheet_7 rfl ?_
    refine g_callSI C (c_X6_isLane g h_la) gs_X6_97 yd_X6_isLane ⟨by decide, by decide⟩ rfl (Nat.le_of_ble_eq_true rfl) dX6_sheet_8 ?_
    rintro _ rfl
    refine g_beq 20 C dX6_sheet_11 (by decide) (fun h2 => ?_) (fun h2 => ?_)
    · refine g_iconst C dX6_sheet_20 ?_
      refine g_iret (u := σ) C T dX6_sheet_21 ?_
      exact ⟨_, rfl, Or.inl ⟨by omega, rfl, rfl⟩⟩
    · refine g_iload_n 3 C rfl dX6_sheet_14 rfl ?_
      refine g_bipush C dX6_sheet_15 (by decide) ?_
      refine g_icmp_le 22 C h_na (by unfold I32 at *; omega) dX6_sheet_17 (by decide) (fun h3 => ?_) (fun h3 => ?_)
      · refine g_iload_n 3 C rfl dX6_sheet_22 rfl ?_
        refine g_if_ge 29 C h_na dX6_sheet_23 (by decide) (fun h4 => ?_) (fun h4 => ?_)
        · refine g_aload_n 0 C rfl dX6_sheet_29 rfl ?_
          refine gf_X6_41 C dX6_sheet_30 ?_
          refine g_iload_n 1 C rfl dX6_sheet_33 rfl ?_
          refine g_sheet C ((sa).toNat) (by omega) (by omega) dX6_sheet_34 ?_
          refine g_iload_n 2 C rfl dX6_sheet_35 rfl ?_
          refine g_iload_n 3 C rfl dX6_sheet_36 rfl ?_
          refine g_callV C (c_X4_hold g (σ := σ) (c := 15 + sa.toNat) (by omega) (la := la) (na := na)) gv_X6_100 yd_X4_hold ⟨by decide, by decide⟩ (15 + sa.toNat) 4 ((WD_get (by omega)).trans (by rw [EC_sheet (by omega)])) rfl rfl (Nat.le_of_ble_eq_true rfl) dX6_sheet_37 ?_
          rintro _ rfl
          refine g_iload_n 3 C rfl dX6_sheet_40 rfl ?_
          refine g_iret (u := (hdS σ (15 + sa.toNat) la na)) C T dX6_sheet_41 ?_
          exact ⟨_, rfl, Or.inr ⟨by omega, Or.inr ⟨by omega, rfl, rfl⟩⟩⟩
        · refine g_bipush C dX6_sheet_26 (by decide) ?_
          refine g_iret (u := σ) C T dX6_sheet_28 ?_
          exact ⟨_, rfl, Or.inr ⟨by omega, Or.inl ⟨by omega, rfl, rfl⟩⟩⟩
      · refine g_iconst C dX6_sheet_20 ?_
        refine g_iret (u := σ) C T dX6_sheet_21 ?_
        exact ⟨_, rfl, Or.inl ⟨by omega, rfl, rfl⟩⟩
set_option maxHeartbeats 4000000 in
set_option maxRecDepth 20000 in
theorem lp_X0_mayTake {g : Gx} {K : Kx} {q : Nat → Nat} {σ : Nat → Nat → Int} {nn : Nat} (hn : σ 1 0 = (nn : Int)) (hn2 : 2 ≤ nn) (hn6 : nn ≤ 6) {c : Nat} (hc : 19 ≤ c ∧ c < 23) (hit : ∀ j, j < 28 → I32 (σ c j)) {a0 : Nat} (ha2 : a0 + 4 * nn + 4 ≤ 28) (C : CX g K cX0_mayTake RX0 7 2 41) (T : RT g K (some .boolean) (fun _ : Unit => WC g q σ) (pI (fun z _ => z = bZ (∀ i, i ≤ nn → RdJ (σ c) a0 i)))) : ∀ (d i : Nat), i ≤ nn + 1 → nn + 1 < i + d → ∀ bf : Int, I32 bf → ((i = 0 ∧ bf = -1) ∨ (i ≠ 0 ∧ bf = σ c (a0 + 4 * i - 4))) → (∀ i', i' < i → RdJ (σ c) a0 i') → GJ g K (WC g q σ) 5 [(0, .ref (q 1)), (1, .ref (q c)), (2, .int (iZ (a0 : Int))), (3, .int (iZ bf)), (4, .int (iZ (i : Int)))] [] := by
  intro d
  induction d with
  | zero => intro i k1 k2; omega
  | succ d ih =>
    intro i k1 k2 bf h_bf hbf hI
    refine g_iload 4 C rfl dX0_mayTake_5 ?_
    refine g_aload_n 0 C rfl dX0_mayTake_7 rfl ?_
    refine gf_X0_27 C dX0_mayTake_8 ?_
    rw [show σ 1 0 = (nn : Int) from hn]
    refine g_icmp_gt 94 C (by unfold I32; omega) (by unfold I32; omega) dX0_mayTake_11 (by decide) (fun h1 => ?_) (fun h1 => ?_)
    · refine g_iconst C dX0_mayTake_94 ?_
      refine g_zret (u := ()) C T dX0_mayTake_95 (by omega) ?_
      exact ⟨_, rfl, (bZ_t (fun i' h9 => hI i' (by omega))).symm⟩
    · refine g_iload_n 2 C rfl dX0_mayTake_14 rfl ?_
      refine g_iconst C dX0_mayTake_15 ?_
      refine g_iload 4 C rfl dX0_mayTake_16 ?_
      refine g_imul C dX0_mayTake_18 ?_
      refine g_iadd C dX0_mayTake_19 ?_
      refine g_iname (fun w2 ew2 => ?_)
      refine g_istore (lv' := [(0, .ref (q 1)), (1, .ref (q c)), (2, .int (iZ (a0 : Int))), (3, .int (iZ bf)), (4, .int (iZ (i : Int))), (5, .int (iZ w2))]) [1, 2, 3, 4, 5, 0] C dX0_mayTake_20 (by decide) rfl ?_
      obtain rfl : w2 = ((a0 + 4 * i : Nat) : Int) := by omega
      refine g_aload_n 1 C rfl dX0_mayTake_22 rfl ?_
      refine g_iload 5 C rfl dX0_mayTake_23 ?_
      refine g_iald C c (a0 + 4 * i) (by omega) (fun f => EC_items hc f) (by omega) (by omega) (by decide) dX0_mayTake_25 ?_
      refine g_iname (fun w3 ew3 => ?_)
      refine g_istore (lv' := [(0, .ref (q 1)), (1, .ref (q c)), (2, .int (iZ (a0 : Int))), (3, .int (iZ bf)), (4, .int (iZ (i : Int))), (5, .int (iZ ((a0 + 4 * i : Nat) : Int))), (6, .int (iZ w3))]) [1, 2, 3, 4, 5, 6, 0] C dX0_mayTake_26 (by decide) rfl ?_
      refine g_iload 6 C rfl dX0_mayTake_28 ?_
      refine g_iload_n 3 C rfl dX0_mayTake_30 rfl ?_
      refine g_icmp_le 51 C (by rw [ew3]; first | exact hit _ (by omega) | (unfold I32; omega)) h_bf dX0_mayTake_31 (by decide) (fun h4 => ?_) (fun h4 => ?_)
      · refine g_iconst C dX0_mayTake_51 ?_
        refine g_zret (u := ()) C T dX0_mayTake_52 (by omega) ?_
        refine ⟨_, rfl, (bZ_f (fun h => ?_)).symm⟩
        have hq9 := h i (by omega)
        subst ew3
        unfold RdJ at hq9
        omega
      · refine g_iload 6 C rfl dX0_mayTake_34 ?_
        refine g_bipush C dX0_mayTake_36 (by decide) ?_
        refine g_icmp_gt 51 C (by rw [ew3]; first | exact hit _ (by omega) | (unfold I32; omega)) (by unfold I32; omega) dX0_mayTake_38 (by decide) (fun h5 => ?_) (fun h5 => ?_)
        · refine g_iconst C dX0_mayTake_51 ?_
          refine g_zret (u := ()) C T dX0_mayTake_52 (by omega) ?_
          refine ⟨_, rfl, (bZ_f (fun h => ?_)).symm⟩
          have hq9 := h i (by omega)
          subst ew3
          unfold RdJ at hq9
          omega
        · refine g_iload 4 C rfl dX0_mayTake_41 ?_
          refine g_if_ne 53 C (by unfold I32; omega) dX0_mayTake_43 (by decide) (fun h6 => ?_) (fun h6 => ?_)
          · refine g_aload_n 1 C rfl dX0_mayTake_53 rfl ?_
            refine g_iload 5 C rfl dX0_mayTake_54 ?_
            refine g_iconst C dX0_mayTake_56 ?_
            refine g_iadd C dX0_mayTake_57 ?_
            refine g_iald C c ((a0 + 4 * i) + 1) (by omega) (fun f => EC_items hc f) (by omega) (by omega) (by decide) dX0_mayTake_58 ?_
            refine g_aload_n 1 C rfl dX0_mayTake_59 rfl ?_
            refine g_iload 5 C rfl dX0_mayTake_60 ?_
            refine g_iconst C dX0_mayTake_62 ?_
            refine g_iadd C dX0_mayTake_63 ?_
            refine g_iald C c ((a0 + 4 * i) + 2) (by omega) (fun f => EC_items hc f) (by omega) (by omega) (by decide) dX0_mayTake_64 ?_
            refine g_callSN (host := "StandingArch") C (c_X6_areEdges g (a := σ c ((a0 + 4 * i) + 1)) (b := σ c ((a0 + 4 * i) + 2)) (hit _ (by omega)) (hit _ (by omega))) (by simp [nwL]) wst_X6_areEdges win_X6 wc_X6_areEdges ⟨by decide, by decide, rfl⟩ ⟨by decide, by decide⟩ rfl (Nat.le_of_ble_eq_true rfl) dX0_mayTake_65 ?_
            rintro _ rfl
            refine g_beq 83 C dX0_mayTake_68 (by decide) (fun h7 => ?_) (fun h7 => ?_)
            · refine g_iconst C dX0_mayTake_83 ?_
              refine g_zret (u := ()) C T dX0_mayTake_84 (by omega) ?_
              refine ⟨_, rfl, (bZ_f (fun h => ?_)).symm⟩
              have hq9 := h i (by omega)
              subst ew3
              unfold RdJ at hq9
              omega
            · refine g_aload_n 1 C rfl dX0_mayTake_71 rfl ?_
              refine g_iload 5 C rfl dX0_mayTake_72 ?_
              refine g_iconst C dX0_mayTake_74 ?_
              refine g_iadd C dX0_mayTake_75 ?_
              refine g_iald C c ((a0 + 4 * i) + 3) (by omega) (fun f => EC_items hc f) (by omega) (by omega) (by decide) dX0_mayTake_76 ?_
              refine g_callSN (host := "StandingArch") C (c_X6_isLoad g (v := σ c ((a0 + 4 * i) + 3)) (hit _ (by omega))) (by simp [nwL]) wst_X6_isLoad win_X6 wc_X6_isLoad ⟨by decide, by decide, rfl⟩ ⟨by decide, by decide⟩ rfl (Nat.le_of_ble_eq_true rfl) dX0_mayTake_77 ?_
              rintro _ rfl
              refine g_bne 85 C dX0_mayTake_80 (by decide) (fun h8 => ?_) (fun h8 => ?_)
              · refine g_iload 6 C rfl dX0_mayTake_85 ?_
                refine g_istore_n (lv' := [(0, .ref (q 1)), (1, .ref (q c)), (2, .int (iZ (a0 : Int))), (3, .int (iZ w3)), (4, .int (iZ (i : Int))), (5, .int (iZ ((a0 + 4 * i : Nat) : Int))), (6, .int (iZ w3))]) [1, 2, 3, 0, 4, 5, 6] C dX0_mayTake_87 rfl (by decide) rfl ?_
                refine g_iinc (lv' := [(0, .ref (q 1)), (1, .ref (q c)), (2, .int (iZ (a0 : Int))), (3, .int (iZ w3)), (4, .int (iZ ((i : Int) + 1))), (5, .int (iZ ((a0 + 4 * i : Nat) : Int))), (6, .int (iZ w3))]) 4 [1, 2, 3, 4, 0, 5, 6] C rfl dX0_mayTake_88 (by decide) rfl ?_
                refine g_goto 5 C dX0_mayTake_91 (by decide) ?_
                subst ew3
                refine g_lv [0, 1, 2, 3, 4] rfl ?_
                refine ih (i + 1) (by omega) (by omega) _ (hit _ (by omega)) (Or.inr ⟨by omega, by rw [show a0 + 4 * (i + 1) - 4 = a0 + 4 * i by omega]⟩) (fun i' h9 => ?_)
                rcases Nat.lt_or_ge i' i with h8 | h8
                · exact hI i' h8
                · obtain rfl : i' = i := by omega
                  unfold RdJ; omega
              · refine g_iconst C dX0_mayTake_83 ?_
                refine g_zret (u := ()) C T dX0_mayTake_84 (by omega) ?_
                refine ⟨_, rfl, (bZ_f (fun h => ?_)).symm⟩
                have hq9 := h i (by omega)
                subst ew3
                unfold RdJ at hq9
                omega
          · refine g_iload 6 C rfl dX0_mayTake_46 ?_
            refine g_if_eq 53 C (by rw [ew3]; first | exact hit _ (by omega) | (unfold I32; omega)) dX0_mayTake_48 (by decide) (fun h9 => ?_) (fun h9 => ?_)
            · refine g_aload_n 1 C rfl dX0_mayTake_53 rfl ?_
              refine g_iload 5 C rfl dX0_mayTake_54 ?_
              refine g_iconst C dX0_mayTake_56 ?_
              refine g_iadd C dX0_mayTake_57 ?_
              refine g_iald C c ((a0 + 4 * i) + 1) (by omega) (fun f => EC_items hc f) (by omega) (by omega) (by decide) dX0_mayTake_58 ?_
              refine g_aload_n 1 C rfl dX0_mayTake_59 rfl ?_
              refine g_iload 5 C rfl dX0_mayTake_60 ?_
              refine g_iconst C dX0_mayTake_62 ?_
              refine g_iadd C dX0_mayTake_63 ?_
              refine g_iald C c ((a0 + 4 * i) + 2) (by omega) (fun f => EC_items hc f) (by omega) (by omega) (by decide) dX0_mayTake_64 ?_
              refine g_callSN (host := "StandingArch") C (c_X6_areEdges g (a := σ c ((a0 + 4 * i) + 1)) (b := σ c ((a0 + 4 * i) + 2)) (hit _ (by omega)) (hit _ (by omega))) (by simp [nwL]) wst_X6_areEdges win_X6 wc_X6_areEdges ⟨by decide, by decide, rfl⟩ ⟨by decide, by decide⟩ rfl (Nat.le_of_ble_eq_true rfl) dX0_mayTake_65 ?_
              rintro _ rfl
              refine g_beq 83 C dX0_mayTake_68 (by decide) (fun h10 => ?_) (fun h10 => ?_)
              · refine g_iconst C dX0_mayTake_83 ?_
                refine g_zret (u := ()) C T dX0_mayTake_84 (by omega) ?_
                refine ⟨_, rfl, (bZ_f (fun h => ?_)).symm⟩
                have hq9 := h i (by omega)
                subst ew3
                unfold RdJ at hq9
                omega
              · refine g_aload_n 1 C rfl dX0_mayTake_71 rfl ?_
                refine g_iload 5 C rfl dX0_mayTake_72 ?_
                refine g_iconst C dX0_mayTake_74 ?_
                refine g_iadd C dX0_mayTake_75 ?_
                refine g_iald C c ((a0 + 4 * i) + 3) (by omega) (fun f => EC_items hc f) (by omega) (by omega) (by decide) dX0_mayTake_76 ?_
                refine g_callSN (host := "StandingArch") C (c_X6_isLoad g (v := σ c ((a0 + 4 * i) + 3)) (hit _ (by omega))) (by simp [nwL]) wst_X6_isLoad win_X6 wc_X6_isLoad ⟨by decide, by decide, rfl⟩ ⟨by decide, by decide⟩ rfl (Nat.le_of_ble_eq_true rfl) dX0_mayTake_77 ?_
                rintro _ rfl
                refine g_bne 85 C dX0_mayTake_80 (by decide) (fun h11 => ?_) (fun h11 => ?_)
                · refine g_iload 6 C rfl dX0_mayTake_85 ?_
                  refine g_istore_n (lv' := [(0, .ref (q 1)), (1, .ref (q c)), (2, .int (iZ (a0 : Int))), (3, .int (iZ w3)), (4, .int (iZ (i : Int))), (5, .int (iZ ((a0 + 4 * i : Nat) : Int))), (6, .int (iZ w3))]) [1, 2, 3, 0, 4, 5, 6] C dX0_mayTake_87 rfl (by decide) rfl ?_
                  refine g_iinc (lv' := [(0, .ref (q 1)), (1, .ref (q c)), (2, .int (iZ (a0 : Int))), (3, .int (iZ w3)), (4, .int (iZ ((i : Int) + 1))), (5, .int (iZ ((a0 + 4 * i : Nat) : Int))), (6, .int (iZ w3))]) 4 [1, 2, 3, 4, 0, 5, 6] C rfl dX0_mayTake_88 (by decide) rfl ?_
                  refine g_goto 5 C dX0_mayTake_91 (by decide) ?_
                  subst ew3
                  refine g_lv [0, 1, 2, 3, 4] rfl ?_
                  refine ih (i + 1) (by omega) (by omega) _ (hit _ (by omega)) (Or.inr ⟨by omega, by rw [show a0 + 4 * (i + 1) - 4 = a0 + 4 * i by omega]⟩) (fun i' h9 => ?_)
                  rcases Nat.lt_or_ge i' i with h8 | h8
                  · exact hI i' h8
                  · obtain rfl : i' = i := by omega
                    unfold RdJ; omega
                · refine g_iconst C dX0_mayTake_83 ?_
                  refine g_zret (u := ()) C T dX0_mayTake_84 (by omega) ?_
                  refine ⟨_, rfl, (bZ_f (fun h => ?_)).symm⟩
                  have hq9 := h i (by omega)
                  subst ew3
                  unfold RdJ at hq9
                  omega
            · refine g_iconst C dX0_mayTake_51 ?_
              refine g_zret (u := ()) C T dX0_mayTake_52 (by omega) ?_
              refine ⟨_, rfl, (bZ_f (fun h => ?_)).symm⟩
              have hq9 := h i (by omega)
              subst ew3
              unfold RdJ at hq9
              omega
set_option maxHeartbeats 4000000 in
set_option maxRecDepth 20000 in
theorem c_X0_mayTake (g : Gx) {q : Nat → Nat} {σ : Nat → Nat → Int} {nn : Nat} (hn : σ 1 0 = (nn : Int)) (hn2 : 2 ≤ nn) (hn6 : nn ≤ 6) {c : Nat} (hc : 19 ≤ c ∧ c < 23) (hit : ∀ j, j < 28 → I32 (σ c j)) {a0 : Nat} (ha2 : a0 + 4 * nn + 4 ≤ 28) : MC g yX0_mayTake cX0_mayTake 7 ((some .boolean)) 2 41 (WC g q σ) [.ref (q 1), .ref (q c), .int (iZ (a0 : Int))] (fun _ : Unit => WC g q σ) (pI (fun z _ => z = bZ (∀ i, i ≤ nn → RdJ (σ c) a0 i))) := by
  refine MC_intro (own := RX0) rfl (by decide) (Nat.le_of_ble_eq_true rfl) (fun K C T => ?_)
  show GJ g K (WC g q σ) 0 [(0, .ref (q 1)), (1, .ref (q c)), (2, .int (iZ (a0 : Int)))] []
  refine g_iconst C dX0_mayTake_0 ?_
  refine g_istore_n (lv' := [(0, .ref (q 1)), (1, .ref (q c)), (2, .int (iZ (a0 : Int))), (3, .int (iZ (-1)))]) [1, 2, 3, 0] C dX0_mayTake_1 rfl (by decide) rfl ?_
  refine g_iconst C dX0_mayTake_2 ?_
  refine g_istore (lv' := [(0, .ref (q 1)), (1, .ref (q c)), (2, .int (iZ (a0 : Int))), (3, .int (iZ (-1))), (4, .int (iZ 0))]) [1, 2, 3, 4, 0] C dX0_mayTake_3 (by decide) rfl ?_
  exact lp_X0_mayTake hn hn2 hn6 hc hit ha2 C T (nn + 2) 0 (by omega) (by omega) (-1) (by unfold I32; decide) (Or.inl ⟨rfl, rfl⟩) (fun i' h9 => absurd h9 (Nat.not_lt_zero _))
set_option maxHeartbeats 4000000 in
set_option maxRecDepth 20000 in
theorem lp_X0_take {g : Gx} {K : Kx} {q : Nat → Nat} {σ : Nat → Nat → Int} {nn : Nat} (hn : σ 1 0 = (nn : Int)) (hn2 : 2 ≤ nn) (hn6 : nn ≤ 6) {c : Nat} (hc : 19 ≤ c ∧ c < 23) (hit : ∀ j, j < 28 → I32 (σ c j)) {a0 : Nat} (ha2 : a0 + 4 * nn + 4 ≤ 28) (C : CX g K cX0_take RX0 5 1 21) (T : RT g K none (fun u => WC g q u) (pV (fun u => u = rdS σ (σ c) 2 3 4 5 nn a0))) : ∀ (d i : Nat), i ≤ nn + 1 → nn + 1 < i + d → ∀ τ : Nat → Nat → Int, TkI σ τ (σ c) 2 3 4 5 nn a0 i → GJ g K (WC g q τ) 2 [(0, .ref (q 1)), (1, .ref (q c)), (2, .int (iZ (a0 : Int))), (3, .int (iZ (i : Int)))] [] := by
  intro d
  induction d with
  | zero => intro i k1 k2; omega
  | succ d ih =>
    intro i k1 k2 τ hB
    have ec : τ c = σ c := hB.1 c (by omega) (by omega) (by omega) (by omega)
    refine g_iload_n 3 C rfl dX0_take_2 rfl ?_
    refine g_aload_n 0 C rfl dX0_take_3 rfl ?_
    refine gf_X0_27 C dX0_take_4 ?_
    rw [show τ 1 0 = (nn : Int) from ((congrFun (hB.1 1 (by decide) (by decide) (by decide) (by decide)) 0).trans hn)]
    refine g_icmp_gt 81 C (by unfold I32; omega) (by unfold I32; omega) dX0_take_7 (by decide) (fun h1 => ?_) (fun h1 => ?_)
    · refine g_vret (u := τ) C T dX0_take_81 ?_
      obtain rfl : i = nn + 1 := by omega
      exact ⟨rfl, (tk_end hB).resolve_right (fun h => h (by decide))⟩
    · refine g_iload_n 2 C rfl dX0_take_10 rfl ?_
      refine g_iconst C dX0_take_11 ?_
      refine g_iload_n 3 C rfl dX0_take_12 rfl ?_
      refine g_imul C dX0_take_13 ?_
      refine g_iadd C dX0_take_14 ?_
      refine g_iname (fun w2 ew2 => ?_)
      refine g_istore (lv' := [(0, .ref (q 1)), (1, .ref (q c)), (2, .int (iZ (a0 : Int))), (3, .int (iZ (i : Int))), (4, .int (iZ w2))]) [1, 2, 3, 4, 0] C dX0_take_15 (by decide) rfl ?_
      obtain rfl : w2 = ((a0 + 4 * i : Nat) : Int) := by omega
      refine g_aload_n 0 C rfl dX0_take_17 rfl ?_
      refine gf_X0_9 C dX0_take_18 ?_
      refine g_iload_n 3 C rfl dX0_take_21 rfl ?_
      refine g_aload_n 1 C rfl dX0_take_22 rfl ?_
      refine g_iload 4 C rfl dX0_take_23 ?_
      refine g_iald C c (a0 + 4 * i) (by omega) (fun f => EC_items hc f) (by omega) (by omega) (by decide) dX0_take_25 ?_
      rw [show τ c (a0 + 4 * i) = σ c (a0 + 4 * i) by rw [ec]]
      refine g_iast C 2 i (by decide) (fun _ => rfl) (by omega) (by omega) (by decide) dX0_take_26 ?_
      refine g_aload_n 0 C rfl dX0_take_27 rfl ?_
      refine gf_X0_15 C dX0_take_28 ?_
      refine g_iload_n 3 C rfl dX0_take_31 rfl ?_
      refine g_aload_n 1 C rfl dX0_take_32 rfl ?_
      refine g_iload 4 C rfl dX0_take_33 ?_
      refine g_iconst C dX0_take_35 ?_
      refine g_iadd C dX0_take_36 ?_
      refine g_iald C c ((a0 + 4 * i) + 1) (by omega) (fun f => EC_items hc f) (by omega) (by omega) (by decide) dX0_take_37 ?_
      rw [show (up τ 2 i (σ c (a0 + 4 * i))) c ((a0 + 4 * i) + 1) = σ c ((a0 + 4 * i) + 1) by rw [up_c (show c ≠ 2 by omega), ec]]
      refine g_iast C 3 i (by decide) (fun _ => rfl) (by omega) (by omega) (by decide) dX0_take_38 ?_
      refine g_aload_n 0 C rfl dX0_take_39 rfl ?_
      refine gf_X0_18 C dX0_take_40 ?_
      refine g_iload_n 3 C rfl dX0_take_43 rfl ?_
      refine g_aload_n 1 C rfl dX0_take_44 rfl ?_
      refine g_iload 4 C rfl dX0_take_45 ?_
      refine g_iconst C dX0_take_47 ?_
      refine g_iadd C dX0_take_48 ?_
      refine g_iald C c ((a0 + 4 * i) + 2) (by omega) (fun f => EC_items hc f) (by omega) (by omega) (by decide) dX0_take_49 ?_
      rw [show (up (up τ 2 i (σ c (a0 + 4 * i))) 3 i (σ c ((a0 + 4 * i) + 1))) c ((a0 + 4 * i) + 2) = σ c ((a0 + 4 * i) + 2) by rw [up_c (show c ≠ 3 by omega), up_c (show c ≠ 2 by omega), ec]]
      refine g_iast C 4 i (by decide) (fun _ => rfl) (by omega) (by omega) (by decide) dX0_take_50 ?_
      refine g_aload_n 0 C rfl dX0_take_51 rfl ?_
      refine gf_X0_21 C dX0_take_52 ?_
      refine g_iload_n 3 C rfl dX0_take_55 rfl ?_
      refine g_aload_n 0 C rfl dX0_take_56 rfl ?_
      refine g_iload_n 3 C rfl dX0_take_57 rfl ?_
      refine g_callI C (c_X0_hasInnerJoint g (σ := (up (up (up τ 2 i (σ c (a0 + 4 * i))) 3 i (σ c ((a0 + 4 * i) + 1))) 4 i (σ c ((a0 + 4 * i) + 2)))) (nn := nn) (by rw [up_c (show (1 : Nat) ≠ 4 by decide), up_c (show (1 : Nat) ≠ 3 by decide), up_c (show (1 : Nat) ≠ 2 by decide), hB.1 1 (by decide) (by decide) (by decide) (by decide)]; exact hn) hn2 hn6 (ia := (i : Int)) (by unfold I32; omega)) gv_X0_39 yd_X0_hasInnerJoint ⟨by decide, by decide⟩ 1 0 (WD_get (by decide)) rfl rfl (Nat.le_of_ble_eq_true rfl) dX0_take_58 ?_
      rintro _ _ rfl
      refine g_beq 73 C dX0_take_61 (by decide) (fun h3 => ?_) (fun h3 => ?_)
      · refine g_iconst C dX0_take_73 ?_
        refine g_iast C 5 i (by decide) (fun _ => rfl) (by omega) (by omega) (by decide) dX0_take_74 ?_
        refine g_iinc (lv' := [(0, .ref (q 1)), (1, .ref (q c)), (2, .int (iZ (a0 : Int))), (3, .int (iZ ((i : Int) + 1))), (4, .int (iZ ((a0 + 4 * i : Nat) : Int)))]) 3 [1, 2, 3, 0, 4] C rfl dX0_take_75 (by decide) rfl ?_
        refine g_goto 2 C dX0_take_78 (by decide) ?_
        refine g_lv [0, 1, 2, 3] rfl ?_
        have e9 : 0 = (if i = 0 ∨ i = nn then 0 else σ c (a0 + 4 * i + 3)) := by
          first | rw [if_pos (by omega)] | rw [if_neg (by omega)]
        refine ih (i + 1) (by omega) (by omega) _ ⟨fun c h1 h2 h3 h4 => by rw [up_c h4, up_c h3, up_c h2, up_c h1]; exact hB.1 c h1 h2 h3 h4, tk_s (F := fun j => σ c (a0 + 4 * j)) hB.2.1, tk_s (F := fun j => σ c (a0 + 4 * j + 1)) hB.2.2.1, tk_s (F := fun j => σ c (a0 + 4 * j + 2)) hB.2.2.2.1, fun j => ?_⟩
        have h9 := tk_s (F := fun j => if j = 0 ∨ j = nn then 0 else σ c (a0 + 4 * j + 3)) hB.2.2.2.2 j
        rw [← e9] at h9
        exact h9
      · refine g_aload_n 1 C rfl dX0_take_64 rfl ?_
        refine g_iload 4 C rfl dX0_take_65 ?_
        refine g_iconst C dX0_take_67 ?_
        refine g_iadd C dX0_take_68 ?_
        refine g_iald C c ((a0 + 4 * i) + 3) (by omega) (fun f => EC_items hc f) (by omega) (by omega) (by decide) dX0_take_69 ?_
        rw [show (up (up (up τ 2 i (σ c (a0 + 4 * i))) 3 i (σ c ((a0 + 4 * i) + 1))) 4 i (σ c ((a0 + 4 * i) + 2))) c ((a0 + 4 * i) + 3) = σ c ((a0 + 4 * i) + 3) by rw [up_c (show c ≠ 4 by omega), up_c (show c ≠ 3 by omega), up_c (show c ≠ 2 by omega), ec]]
        refine g_goto 74 C dX0_take_70 (by decide) ?_
        refine g_iast C 5 i (by decide) (fun _ => rfl) (by omega) (by omega) (by decide) dX0_take_74 ?_
        refine g_iinc (lv' := [(0, .ref (q 1)), (1, .ref (q c)), (2, .int (iZ (a0 : Int))), (3, .int (iZ ((i : Int) + 1))), (4, .int (iZ ((a0 + 4 * i : Nat) : Int)))]) 3 [1, 2, 3, 0, 4] C rfl dX0_take_75 (by decide) rfl ?_
        refine g_goto 2 C dX0_take_78 (by decide) ?_
        refine g_lv [0, 1, 2, 3] rfl ?_
        have e9 : σ c ((a0 + 4 * i) + 3) = (if i = 0 ∨ i = nn then 0 else σ c (a0 + 4 * i + 3)) := by
          first | rw [if_pos (by omega)] | rw [if_neg (by omega)]
        refine ih (i + 1) (by omega) (by omega) _ ⟨fun c h1 h2 h3 h4 => by rw [up_c h4, up_c h3, up_c h2, up_c h1]; exact hB.1 c h1 h2 h3 h4, tk_s (F := fun j => σ c (a0 + 4 * j)) hB.2.1, tk_s (F := fun j => σ c (a0 + 4 * j + 1)) hB.2.2.1, tk_s (F := fun j => σ c (a0 + 4 * j + 2)) hB.2.2.2.1, fun j => ?_⟩
        have h9 := tk_s (F := fun j => if j = 0 ∨ j = nn then 0 else σ c (a0 + 4 * j + 3)) hB.2.2.2.2 j
        rw [← e9] at h9
        exact h9
set_option maxHeartbeats 4000000 in
set_option maxRecDepth 20000 in
theorem c_X0_take (g : Gx) {q : Nat → Nat} {σ : Nat → Nat → Int} {nn : Nat} (hn : σ 1 0 = (nn : Int)) (hn2 : 2 ≤ nn) (hn6 : nn ≤ 6) {c : Nat} (hc : 19 ≤ c ∧ c < 23) (hit : ∀ j, j < 28 → I32 (σ c j)) {a0 : Nat} (ha2 : a0 + 4 * nn + 4 ≤ 28) : MC g yX0_take cX0_take 5 (none) 1 21 (WC g q σ) [.ref (q 1), .ref (q c), .int (iZ (a0 : Int))] (fun u => WC g q u) (pV (fun u => u = rdS σ (σ c) 2 3 4 5 nn a0)) := by
  refine MC_intro (own := RX0) rfl (by decide) (Nat.le_of_ble_eq_true rfl) (fun K C T => ?_)
  show GJ g K (WC g q σ) 0 [(0, .ref (q 1)), (1, .ref (q c)), (2, .int (iZ (a0 : Int)))] []
  refine g_iconst C dX0_take_0 ?_
  refine g_istore_n (lv' := [(0, .ref (q 1)), (1, .ref (q c)), (2, .int (iZ (a0 : Int))), (3, .int (iZ 0))]) [1, 2, 3, 0] C dX0_take_1 rfl (by decide) rfl ?_
  exact lp_X0_take hn hn2 hn6 hc hit ha2 C T (nn + 2) 0 (by omega) (by omega) σ ⟨fun _ _ _ _ _ => rfl, fun j => by rw [if_neg (by omega)], fun j => by rw [if_neg (by omega)], fun j => by rw [if_neg (by omega)], fun j => by rw [if_neg (by omega)]⟩
