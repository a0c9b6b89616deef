theorem byt_sh1 (x : Int32) : (x <<< ((iZ 24) &&& 31)) >>> ((iZ 24) &&& 31) = x.toInt8.toInt32 := by
  have hs : (((iZ 24) &&& 31).toBitVec.smod 32).toNat = 24 := by decide
  apply Int32.toInt_inj.mp
  rw [pk_shr _ _ 24 hs, Int8.toInt_toInt32, Int32.toInt_toInt8, Int.shiftRight_eq_div_pow]
  have h1 := pk_shl x ((iZ 24) &&& 31) 24 hs
  generalize (x <<< ((iZ 24) &&& 31)) = y at *
  have hN : x.toBitVec.toNat < 2 ^ 32 := x.toBitVec.isLt
  have e1 : y.toInt = if 2 * y.toBitVec.toNat < 2 ^ 32 then (y.toBitVec.toNat : Int) else (y.toBitVec.toNat : Int) - (2 ^ 32 : Nat) := BitVec.toInt_eq_toNat_cond y.toBitVec
  have e2 : x.toInt = if 2 * x.toBitVec.toNat < 2 ^ 32 then (x.toBitVec.toNat : Int) else (x.toBitVec.toNat : Int) - (2 ^ 32 : Nat) := BitVec.toInt_eq_toNat_cond x.toBitVec
  rw [Int.bmod_def]
  generalize y.toBitVec.toNat = M at *
  generalize x.toBitVec.toNat = N at *
  generalize y.toInt = Y at *
  generalize x.toInt = X at *
  split at e1 <;> split at e2 <;> split <;> omega
/-- the lowest eight bits -/
def bytZ (v : Int) : Int := ((iZ v).toInt8.toInt32).toInt
theorem bytZ_i (v : Int) : (iZ v).toInt8.toInt32 = iZ (bytZ v) := iZ_of _
theorem bytZ_I (v : Int) : I32 (bytZ v) := iZ_rng _
theorem g_bsh {g : Gx} {K : Kx} {cc : ByteArray} {own : String} {n fr lo : Nat} {ws : va_W} {pc : Nat} {lv : List (Nat × Value)} {rest : List Value} {v : Int} (C : CX g K cc own n fr lo) (hd1 : decode cc pc = .ok (.ishl, 1)) (hd2 : decode cc (pc + 1) = .ok (.bipush 24, 2)) (hd3 : decode cc (pc + 3) = .ok (.ishr, 1)) (k : GJ g K ws (pc + 4) lv (.int (iZ (bytZ v)) :: rest)) : GJ g K ws pc lv (.int (iZ 24) :: .int (iZ v) :: rest) := by
  obtain ⟨p, e, R, s, m, args, below, meth, c, A, Q, nL⟩ := K
  obtain ⟨hx, hb, hml, hown, hts, hK, hlk, hA, hfr, hlo, hN, hn⟩ := C
  intro H locs ls hP hD hS hl
  refine lv_ishl hx hb hd1 ?_
  refine lv_bipush (v := iZ 24) hx hb hd2 (by decide) ?_
  refine lv_ishr hx hb hd3 ?_
  rw [byt_sh1, bytZ_i]
  exact k H locs ls hP hD hS hl
theorem g_i2b {g : Gx} {K : Kx} {cc : ByteArray} {own : String} {n fr lo : Nat} {ws : va_W} {pc : Nat} {lv : List (Nat × Value)} {rest : List Value} {v : Int} (C : CX g K cc own n fr lo) (hd : decode cc pc = .ok (.i2b, 1)) (k : GJ g K ws (pc + 1) lv (.int (iZ (bytZ v)) :: rest)) : GJ g K ws pc lv (.int (iZ v) :: rest) := by
  obtain ⟨p, e, R, s, m, args, below, meth, c, A, Q, nL⟩ := K
  obtain ⟨hx, hb, hml, hown, hts, hK, hlk, hA, hfr, hlo, hN, hn⟩ := C
  intro H locs ls hP hD hS hl
  exact lv_i2b hx hb hd (bytZ_i v) (k H locs ls hP hD hS hl)
def clr (s : Nat) (f : Nat → Int) : Nat → Int := fun j => if 28 * s ≤ j ∧ j < 28 * s + 28 then 0 else f j
def itC (ln sz : Nat → Int) (s l i : Int) : Int := if ¬ ((0 ≤ s ∧ s ≤ 3) ∧ (0 ≤ l ∧ l ≤ 2)) then -1 else if ln s.toNat ≠ l then (if ln s.toNat < 0 then -11 else -12) else if ¬ (0 ≤ i ∧ i < sz s.toNat) then -13 else 1
def RdJ (f : Nat → Int) (a0 i : Nat) : Prop := (i = 0 → f (a0 + 4 * i) = 0) ∧ (i ≠ 0 → f (a0 + 4 * i - 4) < f (a0 + 4 * i)) ∧ f (a0 + 4 * i) ≤ 20 ∧ -20 ≤ f (a0 + 4 * i + 1) ∧ f (a0 + 4 * i + 1) ≤ f (a0 + 4 * i + 2) ∧ f (a0 + 4 * i + 2) ≤ 20 ∧ 0 ≤ f (a0 + 4 * i + 3) ∧ f (a0 + 4 * i + 3) ≤ 10
def rdX (n a0 k : Nat) (f x : Nat → Int) : Nat → Int := fun j => if j ≤ n then f (a0 + 4 * j + k) else x j
def rdW (n a0 : Nat) (f x : Nat → Int) : Nat → Int := fun j => if j ≤ n then (if j = 0 ∨ j = n then 0 else f (a0 + 4 * j + 3)) else x j
def rdS (σ : Nat → Nat → Int) (f : Nat → Int) (cx cl cu cw n a0 : Nat) : Nat → Nat → Int := upf (upf (upf (upf σ cx (rdX n a0 0 f (σ cx))) cl (rdX n a0 1 f (σ cl))) cu (rdX n a0 2 f (σ cu))) cw (rdW n a0 f (σ cw))
theorem tk_s {i : Nat} {F x t : Nat → Int} (ht : ∀ j, t j = if j < i then F j else x j) : ∀ j, updI t i (F i) j = if j < i + 1 then F j else x j := by
  intro j
  unfold updI
  by_cases h : j = i
  · subst h; rw [if_pos rfl, if_pos (by omega)]
  · rw [if_neg h, ht j]
    by_cases h2 : j < i
    · rw [if_pos h2, if_pos (by omega)]
    · rw [if_neg h2, if_neg (by omega)]
def TkI (σ τ : Nat → Nat → Int) (f : Nat → Int) (cx cl cu cw n a0 i : Nat) : Prop := (∀ c, c ≠ cx → c ≠ cl → c ≠ cu → c ≠ cw → τ c = σ c) ∧ (∀ j, τ cx j = if j < i then f (a0 + 4 * j) else σ cx j) ∧ (∀ j, τ cl j = if j < i then f (a0 + 4 * j + 1) else σ cl j) ∧ (∀ j, τ cu j = if j < i then f (a0 + 4 * j + 2) else σ cu j) ∧ ∀ j, τ cw j = if j < i then (if j = 0 ∨ j = n then 0 else f (a0 + 4 * j + 3)) else σ cw j
theorem tk_end {σ τ : Nat → Nat → Int} {f : Nat → Int} {cx cl cu cw n a0 : Nat} (h : TkI σ τ f cx cl cu cw n a0 (n + 1)) : τ = rdS σ f cx cl cu cw n a0 ∨ ¬ (cx ≠ cl ∧ cx ≠ cu ∧ cx ≠ cw ∧ cl ≠ cu ∧ cl ≠ cw ∧ cu ≠ cw) := by
  by_cases hd : cx ≠ cl ∧ cx ≠ cu ∧ cx ≠ cw ∧ cl ≠ cu ∧ cl ≠ cw ∧ cu ≠ cw
  · refine Or.inl ?_
    obtain ⟨d5, d6, d7, d8, d9, d10⟩ := hd
    obtain ⟨h1, h4, h5, h6, h7⟩ := h
    funext c j
    unfold rdS
    by_cases e1 : c = cw
    · subst e1; simp only [upf, if_true]; rw [h7]; unfold rdW; simp only [Nat.lt_succ_iff]
    · by_cases e2 : c = cu
      · subst e2; simp only [upf, if_neg e1, if_true]; rw [h6]; unfold rdX; simp only [Nat.lt_succ_iff]
      · by_cases e3 : c = cl
        · subst e3; simp only [upf, if_neg e1, if_neg e2, if_true]; rw [h5]; unfold rdX; simp only [Nat.lt_succ_iff]
        · by_cases e4 : c = cx
          · subst e4; simp only [upf, if_neg e1, if_neg e2, if_neg e3, if_true]; rw [h4]; unfold rdX; simp only [Nat.lt_succ_iff, Nat.add_zero]
          · simp only [upf, if_neg e1, if_neg e2, if_neg e3, if_neg e4]
            rw [h1 c e4 e3 e2 e1]
  · exact Or.inr hd
set_option maxHeartbeats 4000000 in
set_option maxRecDepth 20000 in
theorem c_X7_drop (g : Gx) {q : Nat → Nat} {σ : Nat → Nat → Int} (hln : ∀ s, s < 4 → -1 ≤ σ 5 s ∧ σ 5 s ≤ 2) (hsz : ∀ s, s < 4 → 0 ≤ σ 6 s ∧ σ 6 s ≤ 28) {sa : Int} (h_sa : I32 sa) : MC g yX7_drop cX7_drop 2 ((some .int)) 1 25 (WM g q σ) [.ref (q 0), .int (iZ sa)] (fun u => WM g q u) (pI (fun z u => (¬ (0 ≤ sa ∧ sa ≤ 3) ∧ z = -1 ∧ u = σ) ∨ ((0 ≤ sa ∧ sa ≤ 3) ∧ ((σ 5 sa.toNat < 0 ∧ z = -11 ∧ u = σ) ∨ (0 ≤ σ 5 sa.toNat ∧ z = σ 6 sa.toNat ∧ u = up σ 5 sa.toNat (-1)))))) := by
  refine MC_intro (own := RX7) rfl (by decide) (Nat.le_of_ble_eq_true rfl) (fun K C T => ?_)
  show GJ g K (WM g q σ) 0 [(0, .ref (q 0)), (1, .int (iZ sa))] []
  refine g_iload_n 1 C rfl dX7_drop_0 rfl ?_
  refine g_i2l C dX7_drop_1 h_sa ?_
  refine g_lconst 0 C dX7_drop_2 (by decide) ?_
  refine g_ldc2 3 C wk_X7_69 (by decide) dX7_drop_3 ?_
  refine g_callSI C (c_X7_in g (v := sa) (a := 0) (b := 3) (I64_32 h_sa) (by unfold I64; omega) (by unfold I64; omega)) gs_X7_59 yd_X7_in ⟨by decide, by decide⟩ rfl (Nat.le_of_ble_eq_true rfl) dX7_drop_6 ?_
  rintro _ rfl
  refine g_bne 14 C dX7_drop_9 (by decide) (fun h1 => ?_) (fun h1 => ?_)
  · refine g_aload_n 0 C rfl dX7_drop_14 rfl ?_
    refine gf_X7_26 C dX7_drop_15 ?_
    refine g_iload_n 1 C rfl dX7_drop_18 rfl ?_
    refine g_iald C 5 ((sa).toNat) (by decide) (fun _ => rfl) (by omega) (by omega) (by decide) dX7_drop_19 ?_
    refine g_if_ge 26 C (by have h5 := hln sa.toNat (by omega); unfold I32; omega) dX7_drop_20 (by decide) (fun h2 => ?_) (fun h2 => ?_)
    · refine g_aload_n 0 C rfl dX7_drop_26 rfl ?_
      refine gf_X7_26 C dX7_drop_27 ?_
      refine g_iload_n 1 C rfl dX7_drop_30 rfl ?_
      refine g_iconst C dX7_drop_31 ?_
      refine g_iast C 5 ((sa).toNat) (by decide) (fun _ => rfl) (by omega) (by omega) (by decide) dX7_drop_32 ?_
      refine g_aload_n 0 C rfl dX7_drop_33 rfl ?_
      refine gf_X7_29 C dX7_drop_34 ?_
      refine g_iload_n 1 C rfl dX7_drop_37 rfl ?_
      refine g_iald C 6 ((sa).toNat) (by decide) (fun _ => rfl) (by omega) (by omega) (by decide) dX7_drop_38 ?_
      rw [show (up σ 5 ((sa).toNat) (-1)) 6 ((sa).toNat) = σ 6 ((sa).toNat) from rfl]
      refine g_iret (u := (up σ 5 ((sa).toNat) (-1))) C T dX7_drop_39 ?_
      exact ⟨_, rfl, Or.inr ⟨by omega, Or.inr ⟨by omega, rfl, rfl⟩⟩⟩
    · refine g_bipush C dX7_drop_23 (by decide) ?_
      refine g_iret (u := σ) C T dX7_drop_25 ?_
      exact ⟨_, rfl, Or.inr ⟨by omega, Or.inl ⟨by omega, rfl, rfl⟩⟩⟩
  · refine g_iconst C dX7_drop_12 ?_
    refine g_iret (u := σ) C T dX7_drop_13 ?_
    exact ⟨_, rfl, Or.inl ⟨by omega, rfl, rfl⟩⟩
set_option maxHeartbeats 4000000 in
set_option maxRecDepth 20000 in
theorem c_X7_item (g : Gx) {q : Nat → Nat} {σ : Nat → Nat → Int} (hln : ∀ s, s < 4 → -1 ≤ σ 5 s ∧ σ 5 s ≤ 2) (hsz : ∀ s, s < 4 → 0 ≤ σ 6 s ∧ σ 6 s ≤ 28) {sa la ia va : Int} (h_sa : I32 sa) (h_la : I32 la) (h_ia : I32 ia) (h_va : I32 va) : MC g yX7_item cX7_item 5 ((some .int)) 2 46 (WM g q σ) [.ref (q 0), .int (iZ sa), .int (iZ la), .int (iZ ia), .int (iZ va)] (fun u => WM g q u) (pI (fun z u => z = itC (σ 5) (σ 6) sa la ia ∧ ((z ≠ 1 ∧ u = σ) ∨ (z = 1 ∧ u = up σ 7 (28 * sa + ia).toNat (if la = 0 then bytZ va else va))))) := by
  refine MC_intro (own := RX7) rfl (by decide) (Nat.le_of_ble_eq_true rfl) (fun K C T => ?_)
  show GJ g K (WM g q σ) 0 [(0, .ref (q 0)), (1, .int (iZ sa)), (2, .int (iZ la)), (3, .int (iZ ia)), (4, .int (iZ va))] []
  have hszs := fun h => hsz sa.toNat h
  refine g_iload_n 1 C rfl dX7_item_0 rfl ?_
  refine g_iload_n 2 C rfl dX7_item_1 rfl ?_
  refine g_callSI C (c_X7_isSheet g h_sa h_la) gs_X7_71 yd_X7_isSheet ⟨by decide, by decide⟩ rfl (Nat.le_of_ble_eq_true rfl) dX7_item_2 ?_
  rintro _ rfl
  refine g_bne 10 C dX7_item_5 (by decide) (fun h1 => ?_) (fun h1 => ?_)
  · refine g_aload_n 0 C rfl dX7_item_10 rfl ?_
    refine gf_X7_26 C dX7_item_11 ?_
    refine g_iload_n 1 C rfl dX7_item_14 rfl ?_
    refine g_iald C 5 ((sa).toNat) (by decide) (fun _ => rfl) (by omega) (by omega) (by decide) dX7_item_15 ?_
    refine g_iload_n 2 C rfl dX7_item_16 rfl ?_
    refine g_icmp_eq 37 C (by have h5 := hln sa.toNat (by omega); unfold I32; omega) h_la dX7_item_17 (by decide) (fun h2 => ?_) (fun h2 => ?_)
    · refine g_iload_n 3 C rfl dX7_item_37 rfl ?_
      refine g_i2l C dX7_item_38 h_ia ?_
      refine g_lconst 0 C dX7_item_39 (by decide) ?_
      refine g_aload_n 0 C rfl dX7_item_40 rfl ?_
      refine gf_X7_29 C dX7_item_41 ?_
      refine g_iload_n 1 C rfl dX7_item_44 rfl ?_
      refine g_iald C 6 ((sa).toNat) (by decide) (fun _ => rfl) (by omega) (by omega) (by decide) dX7_item_45 ?_
      refine g_iconst C dX7_item_46 ?_
      refine g_isub C dX7_item_47 ?_
      refine g_i2l C dX7_item_48 (by have h5 := hsz sa.toNat (by omega); unfold I32; omega) ?_
      refine g_callSI C (c_X7_in g (v := ia) (a := 0) (b := (σ 6 ((sa).toNat)) - 1) (I64_32 h_ia) (by unfold I64; omega) (by have h5 := hsz sa.toNat (by omega); unfold I64; omega)) gs_X7_59 yd_X7_in ⟨by decide, by decide⟩ rfl (Nat.le_of_ble_eq_true rfl) dX7_item_49 ?_
      rintro _ rfl
      refine g_bne 58 C dX7_item_52 (by decide) (fun h3 => ?_) (fun h3 => ?_)
      · refine g_aload_n 0 C rfl dX7_item_58 rfl ?_
        refine gf_X7_32 C dX7_item_59 ?_
        refine g_bipush C dX7_item_62 (by decide) ?_
        refine g_iload_n 1 C rfl dX7_item_64 rfl ?_
        refine g_imul C dX7_item_65 ?_
        refine g_iload_n 3 C rfl dX7_item_66 rfl ?_
        refine g_iadd C dX7_item_67 ?_
        refine g_iload_n 2 C rfl dX7_item_68 rfl ?_
        refine g_if_ne 83 C h_la dX7_item_69 (by decide) (fun h4 => ?_) (fun h4 => ?_)
        · refine g_iload 4 C rfl dX7_item_83 ?_
          refine g_iast C 7 (((28 * sa) + ia).toNat) (by decide) (fun _ => rfl) (by omega) (by omega) (by decide) dX7_item_85 ?_
          refine g_iconst C dX7_item_86 ?_
          refine g_iret (u := (up σ 7 (((28 * sa) + ia).toNat) va)) C T dX7_item_87 ?_
          refine ⟨_, rfl, ?_, ?_⟩
          · unfold itC
            (repeat' split) <;> first | rfl | (exfalso; omega)
          · exact Or.inr ⟨rfl, by rw [if_neg (by omega)]⟩
        · refine g_iload 4 C rfl dX7_item_72 ?_
          refine g_bipush C dX7_item_74 (by decide) ?_
          refine g_bsh C dX7_item_76 dX7_item_77 dX7_item_79 ?_
          refine g_goto 85 C dX7_item_80 (by decide) ?_
          refine g_iast C 7 (((28 * sa) + ia).toNat) (by decide) (fun _ => rfl) (by omega) (by omega) (by decide) dX7_item_85 ?_
          refine g_iconst C dX7_item_86 ?_
          refine g_iret (u := (up σ 7 (((28 * sa) + ia).toNat) (bytZ va))) C T dX7_item_87 ?_
          refine ⟨_, rfl, ?_, ?_⟩
          · unfold itC
            (repeat' split) <;> first | rfl | (exfalso; omega)
          · exact Or.inr ⟨rfl, by rw [if_pos (by omega)]⟩
      · refine g_bipush C dX7_item_55 (by decide) ?_
        refine g_iret (u := σ) C T dX7_item_57 ?_
        refine ⟨_, rfl, ?_, ?_⟩
        · unfold itC
          (repeat' split) <;> first | rfl | (exfalso; omega)
        · exact Or.inl ⟨by decide, rfl⟩
    · refine g_aload_n 0 C rfl dX7_item_20 rfl ?_
      refine gf_X7_26 C dX7_item_21 ?_
      refine g_iload_n 1 C rfl dX7_item_24 rfl ?_
      refine g_iald C 5 ((sa).toNat) (by decide) (fun _ => rfl) (by omega) (by omega) (by decide) dX7_item_25 ?_
      refine g_if_ge 34 C (by have h5 := hln sa.toNat (by omega); unfold I32; omega) dX7_item_26 (by decide) (fun h5 => ?_) (fun h5 => ?_)
      · refine g_bipush C dX7_item_34 (by decide) ?_
        refine g_iret (u := σ) C T dX7_item_36 ?_
        refine ⟨_, rfl, ?_, ?_⟩
        · unfold itC
          (repeat' split) <;> first | rfl | (exfalso; omega)
        · exact Or.inl ⟨by decide, rfl⟩
      · refine g_bipush C dX7_item_29 (by decide) ?_
        refine g_goto 36 C dX7_item_31 (by decide) ?_
        refine g_iret (u := σ) C T dX7_item_36 ?_
        refine ⟨_, rfl, ?_, ?_⟩
        · unfold itC
          (repeat' split) <;> first | rfl | (exfalso; omega)
        · exact Or.inl ⟨by decide, rfl⟩
  · refine g_iconst C dX7_item_8 ?_
    refine g_iret (u := σ) C T dX7_item_9 ?_
    refine ⟨_, rfl, ?_, ?_⟩
    · unfold itC
      (repeat' split) <;> first | rfl | (exfalso; omega)
    · exact Or.inl ⟨by decide, rfl⟩
set_option maxHeartbeats 4000000 in
set_option maxRecDepth 20000 in
theorem lp_X7_sheet {g : Gx} {K : Kx} {q : Nat → Nat} {σ : Nat → Nat → Int} {sa la na : Int} (hs : 0 ≤ sa ∧ sa ≤ 3) (hl : 0 ≤ la ∧ la ≤ 2) (h_na : 0 ≤ na ∧ na ≤ 28) (C : CX g K cX7_sheet RX7 5 2 46) (T : RT g K (some .int) (fun u => WM g q u) (pI (fun z u => (¬ (((0 ≤ sa ∧ sa ≤ 3) ∧ (0 ≤ la ∧ la ≤ 2)) ∧ na ≤ 28) ∧ z = -1 ∧ u = σ) ∨ ((((0 ≤ sa ∧ sa ≤ 3) ∧ (0 ≤ la ∧ la ≤ 2)) ∧ na ≤ 28) ∧ ((na < 0 ∧ z = -14 ∧ u = σ) ∨ (0 ≤ na ∧ z = na ∧ u = upf (up (up σ 5 sa.toNat la) 6 sa.toNat na) 7 (clr sa.toNat (σ 7)))))))) : ∀ (d k : Nat), k ≤ 28 → 28 < k + d → ∀ f : Nat → Int, (∀ j, f j = if 28 * sa.toNat ≤ j ∧ j < 28 * sa.toNat + k then 0 else σ 7 j) → GJ g K (WM g q (upf (up (up σ 5 sa.toNat la) 6 sa.toNat na) 7 f)) 40 [(0, .ref (q 0)), (1, .int (iZ sa)), (2, .int (iZ la)), (3, .int (iZ na)), (4, .int (iZ (k : Int)))] [] := by
  intro d
  induction d with
  | zero => intro k k1 k2; omega
  | succ d ih =>
    intro k k1 k2 f hf
    refine g_iload 4 C rfl dX7_sheet_40 ?_
    refine g_bipush C dX7_sheet_42 (by decide) ?_
    refine g_icmp_ge 66 C (by unfold I32; omega) (by unfold I32; omega) dX7_sheet_44 (by decide) (fun h1 => ?_) (fun h1 => ?_)
    · refine g_iload_n 3 C rfl dX7_sheet_66 rfl ?_
      refine g_iret (u := (upf (up (up σ 5 sa.toNat la) 6 sa.toNat na) 7 f)) C T dX7_sheet_67 ?_
      refine ⟨_, rfl, Or.inr ⟨by omega, Or.inr ⟨by omega, rfl, ?_⟩⟩⟩
      have e9 : f = clr sa.toNat (σ 7) := by
        funext j
        rw [hf j]
        unfold clr
        (repeat' split) <;> first | rfl | (exfalso; omega)
      rw [e9]
    · refine g_aload_n 0 C rfl dX7_sheet_47 rfl ?_
      refine gf_X7_32 C dX7_sheet_48 ?_
      refine g_bipush C dX7_sheet_51 (by decide) ?_
      refine g_iload_n 1 C rfl dX7_sheet_53 rfl ?_
      refine g_imul C dX7_sheet_54 ?_
      refine g_iload 4 C rfl dX7_sheet_55 ?_
      refine g_iadd C dX7_sheet_57 ?_
      refine g_iconst C dX7_sheet_58 ?_
      refine g_iast C 7 (((28 * sa) + (k : Int)).toNat) (by decide) (fun _ => rfl) (by omega) (by omega) (by decide) dX7_sheet_59 ?_
      refine g_iinc (lv' := [(0, .ref (q 0)), (1, .int (iZ sa)), (2, .int (iZ la)), (3, .int (iZ na)), (4, .int (iZ ((k : Int) + 1)))]) 4 [1, 2, 3, 4, 0] C rfl dX7_sheet_60 (by decide) rfl ?_
      refine g_goto 40 C dX7_sheet_63 (by decide) ?_
      have e9 : up (upf (up (up σ 5 sa.toNat la) 6 sa.toNat na) 7 f) 7 (28 * sa + (k : Int)).toNat 0 = upf (up (up σ 5 sa.toNat la) 6 sa.toNat na) 7 (updI f (28 * sa + (k : Int)).toNat 0) := by
        funext c
        by_cases h : c = 7
        · subst h; simp [up, upf]
        · simp [up, upf, h]
      rw [e9]
      refine ih (k + 1) (by omega) (by omega) _ (fun j => ?_)
      unfold updI
      rw [hf j]
      (repeat' split) <;> first | rfl | (exfalso; omega)
set_option maxHeartbeats 4000000 in
set_option maxRecDepth 20000 in
theorem c_X7_sheet (g : Gx) {q : Nat → Nat} {σ : Nat → Nat → Int} {sa la na : Int} (h_sa : I32 sa) (h_la : I32 la) (h_na : I32 na) : MC g yX7_sheet cX7_sheet 5 ((some .int)) 2 46 (WM g q σ) [.ref (q 0), .int (iZ sa), .int (iZ la), .int (iZ na)] (fun u => WM g q u) (pI (fun z u => (¬ (((0 ≤ sa ∧ sa ≤ 3) ∧ (0 ≤ la ∧ la ≤ 2)) ∧ na ≤ 28) ∧ z = -1 ∧ u = σ) ∨ ((((0 ≤ sa ∧ sa ≤ 3) ∧ (0 ≤ la ∧ la ≤ 2)) ∧ na ≤ 28) ∧ ((na < 0 ∧ z = -14 ∧ u = σ) ∨ (0 ≤ na ∧ z = na ∧ u = upf (up (up σ 5 sa.toNat la) 6 sa.toNat na) 7 (clr sa.toNat (σ 7))))))) := by
  refine MC_intro (own := RX7) rfl (by decide) (Nat.le_of_ble_eq_true rfl) (fun K C T => ?_)
  show GJ g K (WM g q σ) 0 [(0, .ref (q 0)), (1, .int (iZ sa)), (2, .int (iZ la)), (3, .int (iZ na))] []
  refine g_iload_n 1 C rfl dX7_sheet_0 rfl ?_
  refine g_iload_n 2 C rfl dX7_sheet_1 rfl ?_
  refine g_callSI C (c_X7_isSheet g h_sa h_la) gs_X7_71 yd_X7_isSheet ⟨by decide, by decide⟩ rfl (Nat.le_of_ble_eq_true rfl) dX7_sheet_2 ?_
  rintro _ rfl
  refine g_beq 14 C dX7_sheet_5 (by decide) (fun h1 => ?_) (fun h1 => ?_)
  · refine g_iconst C dX7_sheet_14 ?_
    refine g_iret (u := σ) C T dX7_sheet_15 ?_
    exact ⟨_, rfl, Or.inl ⟨by omega, rfl, rfl⟩⟩
  · refine g_iload_n 3 C rfl dX7_sheet_8 rfl ?_
    refine g_bipush C dX7_sheet_9 (by decide) ?_
    refine g_icmp_le 16 C h_na (by unfold I32 at *; omega) dX7_sheet_11 (by decide) (fun h2 => ?_) (fun h2 => ?_)
    · refine g_iload_n 3 C rfl dX7_sheet_16 rfl ?_
      refine g_if_ge 23 C h_na dX7_sheet_17 (by decide) (fun h3 => ?_) (fun h3 => ?_)
      · refine g_aload_n 0 C rfl dX7_sheet_23 rfl ?_
        refine gf_X7_26 C dX7_sheet_24 ?_
        refine g_iload_n 1 C rfl dX7_sheet_27 rfl ?_
        refine g_iload_n 2 C rfl dX7_sheet_28 rfl ?_
        refine g_iast C 5 ((sa).toNat) (by decide) (fun _ => rfl) (by omega) (by omega) (by decide) dX7_sheet_29 ?_
        refine g_aload_n 0 C rfl dX7_sheet_30 rfl ?_
        refine gf_X7_29 C dX7_sheet_31 ?_
        refine g_iload_n 1 C rfl dX7_sheet_34 rfl ?_
        refine g_iload_n 3 C rfl dX7_sheet_35 rfl ?_
        refine g_iast C 6 ((sa).toNat) (by decide) (fun _ => rfl) (by omega) (by omega) (by decide) dX7_sheet_36 ?_
        refine g_iconst C dX7_sheet_37 ?_
        refine g_istore (lv' := [(0, .ref (q 0)), (1, .int (iZ sa)), (2, .int (iZ la)), (3, .int (iZ na)), (4, .int (iZ 0))]) [1, 2, 3, 4, 0] C dX7_sheet_38 (by decide) rfl ?_
        have h9 := lp_X7_sheet (by omega) (by omega) (by omega) C T 29 0 (by omega) (by omega) (σ 7) (fun j => by rw [if_neg (by omega)])
        rw [show upf (up (up σ 5 sa.toNat la) 6 sa.toNat na) 7 (σ 7) = up (up σ 5 sa.toNat la) 6 sa.toNat na from by funext c; by_cases h : c = 7 <;> simp [upf, up, h]] at h9
        exact h9
      · refine g_bipush C dX7_sheet_20 (by decide) ?_
        refine g_iret (u := σ) C T dX7_sheet_22 ?_
        exact ⟨_, rfl, Or.inr ⟨by omega, Or.inl ⟨by omega, rfl, rfl⟩⟩⟩
    · refine g_iconst C dX7_sheet_14 ?_
      refine g_iret (u := σ) C T dX7_sheet_15 ?_
      exact ⟨_, rfl, Or.inl ⟨by omega, rfl, rfl⟩⟩
def itR (ln sz : Nat → Int) (n : Nat) (s l f : Int) : Int := if ¬ ((0 ≤ s ∧ s ≤ 3) ∧ (0 ≤ l ∧ l ≤ 2)) then -1 else if ln s.toNat ≠ l then (if ln s.toNat < 0 then -11 else -12) else if ¬ (0 ≤ f ∧ f + 4 * n + 4 ≤ sz s.toNat) then -13 else 1
set_option maxHeartbeats 4000000 in
set_option maxRecDepth 20000 in
theorem rd2_X7 {g : Gx} {K : Kx} {q : Nat → Nat} {σ : Nat → Nat → Int} {nn a0 : Nat} {sa la fa : Int} (hn : σ 0 0 = (nn : Int)) (hn6 : nn ≤ 6) (hit : ∀ j, j < 112 → I32 (σ 7 j)) (hR : itR (σ 5) (σ 6) nn sa la fa = 1) (ha : a0 = (28 * sa + fa).toNat) (ha2 : a0 + 4 * nn + 4 ≤ 112) (hok : ∀ i, i ≤ nn → RdJ (σ 7) a0 i) (C : CX g K cX7_read RX7 9 2 46) (T : RT g K (some .int) (fun u => WM g q u) (pI (fun z u => (itR (σ 5) (σ 6) nn sa la fa ≠ 1 ∧ z = itR (σ 5) (σ 6) nn sa la fa ∧ u = σ) ∨ (itR (σ 5) (σ 6) nn sa la fa = 1 ∧ ((¬ (∀ i, i ≤ nn → RdJ (σ 7) (28 * sa + fa).toNat i) ∧ z = -2 ∧ u = σ) ∨ ((∀ i, i ≤ nn → RdJ (σ 7) (28 * sa + fa).toNat i) ∧ z = 1 ∧ u = rdS σ (σ 7) 1 2 3 4 nn (28 * sa + fa).toNat)))))) : ∀ (d i : Nat), i ≤ nn + 1 → nn + 1 < i + d → ∀ τ : Nat → Nat → Int, TkI σ τ (σ 7) 1 2 3 4 nn a0 i → GJ g K (WM g q τ) 235 [(0, .ref (q 0)), (1, .int (iZ sa)), (2, .int (iZ la)), (3, .int (iZ fa)), (4, .int (iZ (a0 : Int))), (5, .int (iZ (i : Int)))] [] := by
  intro d
  induction d with
  | zero => intro i k1 k2; omega
  | succ d ih =>
    intro i k1 k2 τ hB
    refine g_iload 5 C rfl dX7_read_235 ?_
    refine g_aload_n 0 C rfl dX7_read_237 rfl ?_
    refine gf_X7_7 C dX7_read_238 ?_
    rw [show τ 0 0 = (nn : Int) from ((congrFun (hB.1 0 (by decide) (by decide) (by decide) (by decide)) 0).trans hn)]
    refine g_icmp_gt 350 C (by unfold I32; omega) (by unfold I32; omega) dX7_read_241 (by decide) (fun h1 => ?_) (fun h1 => ?_)
    · refine g_iconst C dX7_read_350 ?_
      refine g_iret (u := τ) C T dX7_read_351 ?_
      obtain rfl : i = nn + 1 := by omega
      subst ha
      exact ⟨_, rfl, Or.inr ⟨hR, Or.inr ⟨hok, rfl, (tk_end hB).resolve_right (fun h => h (by decide))⟩⟩⟩
    · refine g_aload_n 0 C rfl dX7_read_244 rfl ?_
      refine gf_X7_13 C dX7_read_245 ?_
      refine g_iload 5 C rfl dX7_read_248 ?_
      refine g_aload_n 0 C rfl dX7_read_250 rfl ?_
      refine gf_X7_32 C dX7_read_251 ?_
      refine g_iload 4 C rfl dX7_read_254 ?_
      refine g_iconst C dX7_read_256 ?_
      refine g_iload 5 C rfl dX7_read_257 ?_
      refine g_imul C dX7_read_259 ?_
      refine g_iadd C dX7_read_260 ?_
      refine g_iald C 7 (a0 + (4 * i)) (by decide) (fun _ => rfl) (by omega) (by omega) (by decide) dX7_read_261 ?_
      rw [show τ 7 (a0 + (4 * i)) = σ 7 (a0 + (4 * i)) from congrFun (hB.1 7 (by decide) (by decide) (by decide) (by decide)) _]
      refine g_iast C 1 i (by decide) (fun _ => rfl) (by omega) (by omega) (by decide) dX7_read_262 ?_
      refine g_aload_n 0 C rfl dX7_read_263 rfl ?_
      refine gf_X7_17 C dX7_read_264 ?_
      refine g_iload 5 C rfl dX7_read_267 ?_
      refine g_aload_n 0 C rfl dX7_read_269 rfl ?_
      refine gf_X7_32 C dX7_read_270 ?_
      refine g_iload 4 C rfl dX7_read_273 ?_
      refine g_iconst C dX7_read_275 ?_
      refine g_iload 5 C rfl dX7_read_276 ?_
      refine g_imul C dX7_read_278 ?_
      refine g_iadd C dX7_read_279 ?_
      refine g_iconst C dX7_read_280 ?_
      refine g_iadd C dX7_read_281 ?_
      refine g_iald C 7 ((a0 + (4 * i)) + 1) (by decide) (fun _ => rfl) (by omega) (by omega) (by decide) dX7_read_282 ?_
      rw [show (up τ 1 i (σ 7 (a0 + (4 * i)))) 7 ((a0 + (4 * i)) + 1) = σ 7 ((a0 + (4 * i)) + 1) from congrFun (hB.1 7 (by decide) (by decide) (by decide) (by decide)) _]
      refine g_iast C 2 i (by decide) (fun _ => rfl) (by omega) (by omega) (by decide) dX7_read_283 ?_
      refine g_aload_n 0 C rfl dX7_read_284 rfl ?_
      refine gf_X7_20 C dX7_read_285 ?_
      refine g_iload 5 C rfl dX7_read_288 ?_
      refine g_aload_n 0 C rfl dX7_read_290 rfl ?_
      refine gf_X7_32 C dX7_read_291 ?_
      refine g_iload 4 C rfl dX7_read_294 ?_
      refine g_iconst C dX7_read_296 ?_
      refine g_iload 5 C rfl dX7_read_297 ?_
      refine g_imul C dX7_read_299 ?_
      refine g_iadd C dX7_read_300 ?_
      refine g_iconst C dX7_read_301 ?_
      refine g_iadd C dX7_read_302 ?_
      refine g_iald C 7 ((a0 + (4 * i)) + 2) (by decide) (fun _ => rfl) (by omega) (by omega) (by decide) dX7_read_303 ?_
      rw [show (up (up τ 1 i (σ 7 (a0 + (4 * i)))) 2 i (σ 7 ((a0 + (4 * i)) + 1))) 7 ((a0 + (4 * i)) + 2) = σ 7 ((a0 + (4 * i)) + 2) from congrFun (hB.1 7 (by decide) (by decide) (by decide) (by decide)) _]
      refine g_iast C 3 i (by decide) (fun _ => rfl) (by omega) (by omega) (by decide) dX7_read_304 ?_
      refine g_aload_n 0 C rfl dX7_read_305 rfl ?_
      refine gf_X7_23 C dX7_read_306 ?_
      refine g_iload 5 C rfl dX7_read_309 ?_
      refine g_iload 5 C rfl dX7_read_311 ?_
      refine g_if_eq 325 C (by unfold I32; omega) dX7_read_313 (by decide) (fun h2 => ?_) (fun h2 => ?_)
      · refine g_iconst C dX7_read_325 ?_
        refine g_goto 343 C dX7_read_326 (by decide) ?_
        refine g_iast C 4 i (by decide) (fun _ => rfl) (by omega) (by omega) (by decide) dX7_read_343 ?_
        refine g_iinc (lv' := [(0, .ref (q 0)), (1, .int (iZ sa)), (2, .int (iZ la)), (3, .int (iZ fa)), (4, .int (iZ (a0 : Int))), (5, .int (iZ ((i : Int) + 1)))]) 5 [1, 2, 3, 4, 5, 0] C rfl dX7_read_344 (by decide) rfl ?_
        refine g_goto 235 C dX7_read_347 (by decide) ?_
        have e9 : 0 = (if i = 0 ∨ i = nn then 0 else σ 7 (a0 + 4 * i + 3)) := by
          first | rw [if_pos (by omega)] | rw [if_neg (by omega)]
        refine ih (i + 1) (by omega) (by omega) _ ⟨fun c h1 h2 h3 h4 => by rw [up_c h4, up_c h3, up_c h2, up_c h1]; exact hB.1 c h1 h2 h3 h4, tk_s (F := fun j => σ 7 (a0 + 4 * j)) hB.2.1, tk_s (F := fun j => σ 7 (a0 + 4 * j + 1)) hB.2.2.1, tk_s (F := fun j => σ 7 (a0 + 4 * j + 2)) hB.2.2.2.1, fun j => ?_⟩
        have h9 := tk_s (F := fun j => if j = 0 ∨ j = nn then 0 else σ 7 (a0 + 4 * j + 3)) hB.2.2.2.2 j
        rw [← e9] at h9
        exact h9
      · refine g_iload 5 C rfl dX7_read_316 ?_
        refine g_aload_n 0 C rfl dX7_read_318 rfl ?_
        refine gf_X7_7 C dX7_read_319 ?_
        rw [show (up (up (up τ 1 i (σ 7 (a0 + (4 * i)))) 2 i (σ 7 ((a0 + (4 * i)) + 1))) 3 i (σ 7 ((a0 + (4 * i)) + 2))) 0 0 = (nn : Int) from ((congrFun (hB.1 0 (by decide) (by decide) (by decide) (by decide)) 0).trans hn)]
        refine g_icmp_ne 329 C (by unfold I32; omega) (by unfold I32; omega) dX7_read_322 (by decide) (fun h3 => ?_) (fun h3 => ?_)
        · refine g_aload_n 0 C rfl dX7_read_329 rfl ?_
          refine gf_X7_32 C dX7_read_330 ?_
          refine g_iload 4 C rfl dX7_read_333 ?_
          refine g_iconst C dX7_read_335 ?_
          refine g_iload 5 C rfl dX7_read_336 ?_
          refine g_imul C dX7_read_338 ?_
          refine g_iadd C dX7_read_339 ?_
          refine g_iconst C dX7_read_340 ?_
          refine g_iadd C dX7_read_341 ?_
          refine g_iald C 7 ((a0 + (4 * i)) + 3) (by decide) (fun _ => rfl) (by omega) (by omega) (by decide) dX7_read_342 ?_
          rw [show (up (up (up τ 1 i (σ 7 (a0 + (4 * i)))) 2 i (σ 7 ((a0 + (4 * i)) + 1))) 3 i (σ 7 ((a0 + (4 * i)) + 2))) 7 ((a0 + (4 * i)) + 3) = σ 7 ((a0 + (4 * i)) + 3) from congrFun (hB.1 7 (by decide) (by decide) (by decide) (by decide)) _]
          refine g_iast C 4 i (by decide) (fun _ => rfl) (by omega) (by omega) (by decide) dX7_read_343 ?_
          refine g_iinc (lv' := [(0, .ref (q 0)), (1, .int (iZ sa)), (2, .int (iZ la)), (3, .int (iZ fa)), (4, .int (iZ (a0 : Int))), (5, .int (iZ ((i : Int) + 1)))]) 5 [1, 2, 3, 4, 5, 0] C rfl dX7_read_344 (by decide) rfl ?_
          refine g_goto 235 C dX7_read_347 (by decide) ?_
          have e9 : σ 7 ((a0 + (4 * i)) + 3) = (if i = 0 ∨ i = nn then 0 else σ 7 (a0 + 4 * i + 3)) := by
            first | rw [if_pos (by omega)] | rw [if_neg (by omega)]
          refine ih (i + 1) (by omega) (by omega) _ ⟨fun c h1 h2 h3 h4 => by rw [up_c h4, up_c h3, up_c h2, up_c h1]; exact hB.1 c h1 h2 h3 h4, tk_s (F := fun j => σ 7 (a0 + 4 * j)) hB.2.1, tk_s (F := fun j => σ 7 (a0 + 4 * j + 1)) hB.2.2.1, tk_s (F := fun j => σ 7 (a0 + 4 * j + 2)) hB.2.2.2.1, fun j => ?_⟩
          have h9 := tk_s (F := fun j => if j = 0 ∨ j = nn then 0 else σ 7 (a0 + 4 * j + 3)) hB.2.2.2.2 j
          rw [← e9] at h9
          exact h9
        · refine g_iconst C dX7_read_325 ?_
          refine g_goto 343 C dX7_read_326 (by decide) ?_
          refine g_iast C 4 i (by decide) (fun _ => rfl) (by omega) (by omega) (by decide) dX7_read_343 ?_
          refine g_iinc (lv' := [(0, .ref (q 0)), (1, .int (iZ sa)), (2, .int (iZ la)), (3, .int (iZ fa)), (4, .int (iZ (a0 : Int))), (5, .int (iZ ((i : Int) + 1)))]) 5 [1, 2, 3, 4, 5, 0] C rfl dX7_read_344 (by decide) rfl ?_
          refine g_goto 235 C dX7_read_347 (by decide) ?_
          have e9 : 0 = (if i = 0 ∨ i = nn then 0 else σ 7 (a0 + 4 * i + 3)) := by
            first | rw [if_pos (by omega)] | rw [if_neg (by omega)]
          refine ih (i + 1) (by omega) (by omega) _ ⟨fun c h1 h2 h3 h4 => by rw [up_c h4, up_c h3, up_c h2, up_c h1]; exact hB.1 c h1 h2 h3 h4, tk_s (F := fun j => σ 7 (a0 + 4 * j)) hB.2.1, tk_s (F := fun j => σ 7 (a0 + 4 * j + 1)) hB.2.2.1, tk_s (F := fun j => σ 7 (a0 + 4 * j + 2)) hB.2.2.2.1, fun j => ?_⟩
          have h9 := tk_s (F := fun j => if j = 0 ∨ j = nn then 0 else σ 7 (a0 + 4 * j + 3)) hB.2.2.2.2 j
          rw [← e9] at h9
          exact h9
set_option maxHeartbeats 4000000 in
set_option maxRecDepth 20000 in
theorem rd1_X7 {g : Gx} {K : Kx} {q : Nat → Nat} {σ : Nat → Nat → Int} {nn a0 : Nat} {sa la fa : Int} (hn : σ 0 0 = (nn : Int)) (hn6 : nn ≤ 6) (hit : ∀ j, j < 112 → I32 (σ 7 j)) (hR : itR (σ 5) (σ 6) nn sa la fa = 1) (ha : a0 = (28 * sa + fa).toNat) (ha2 : a0 + 4 * nn + 4 ≤ 112) (C : CX g K cX7_read RX7 9 2 46) (T : RT g K (some .int) (fun u => WM g q u) (pI (fun z u => (itR (σ 5) (σ 6) nn sa la fa ≠ 1 ∧ z = itR (σ 5) (σ 6) nn sa la fa ∧ u = σ) ∨ (itR (σ 5) (σ 6) nn sa la fa = 1 ∧ ((¬ (∀ i, i ≤ nn → RdJ (σ 7) (28 * sa + fa).toNat i) ∧ z = -2 ∧ u = σ) ∨ ((∀ i, i ≤ nn → RdJ (σ 7) (28 * sa + fa).toNat i) ∧ z = 1 ∧ u = rdS σ (σ 7) 1 2 3 4 nn (28 * sa + fa).toNat)))))) : ∀ (d i : Nat), i ≤ nn + 1 → nn + 1 < i + d → (∀ i', i' < i → RdJ (σ 7) a0 i') → GJ g K (WM g q σ) 76 [(0, .ref (q 0)), (1, .int (iZ sa)), (2, .int (iZ la)), (3, .int (iZ fa)), (4, .int (iZ (a0 : Int))), (5, .int (iZ (i : Int)))] [] := by
  intro d
  induction d with
  | zero => intro i k1 k2; omega
  | succ d ih =>
    intro i k1 k2 hI
    refine g_iload 5 C rfl dX7_read_76 ?_
    refine g_aload_n 0 C rfl dX7_read_78 rfl ?_
    refine gf_X7_7 C dX7_read_79 ?_
    rw [show σ 0 0 = (nn : Int) from hn]
    refine g_icmp_gt 232 C (by unfold I32; omega) (by unfold I32; omega) dX7_read_82 (by decide) (fun h1 => ?_) (fun h1 => ?_)
    · refine g_iconst C dX7_read_232 ?_
      refine g_istore (lv' := [(0, .ref (q 0)), (1, .int (iZ sa)), (2, .int (iZ la)), (3, .int (iZ fa)), (4, .int (iZ (a0 : Int))), (5, .int (iZ 0))]) [1, 2, 3, 4, 5, 0] C dX7_read_233 (by decide) rfl ?_
      have h9 := rd2_X7 hn hn6 hit hR ha ha2 (fun i9 h8 => hI i9 (by omega)) C T (nn + 2) 0 (by omega) (by omega) σ ⟨fun _ _ _ _ _ => rfl, fun j => by rw [if_neg (by omega)], fun j => by rw [if_neg (by omega)], fun j => by rw [if_neg (by omega)], fun j => by rw [if_neg (by omega)]⟩
      exact h9
    · refine g_aload_n 0 C rfl dX7_read_85 rfl ?_
      refine gf_X7_32 C dX7_read_86 ?_
      refine g_iload 4 C rfl dX7_read_89 ?_
      refine g_iconst C dX7_read_91 ?_
      refine g_iload 5 C rfl dX7_read_92 ?_
      refine g_imul C dX7_read_94 ?_
      refine g_iadd C dX7_read_95 ?_
      refine g_iald C 7 (a0 + (4 * i)) (by decide) (fun _ => rfl) (by omega) (by omega) (by decide) dX7_read_96 ?_
      refine g_iname (fun w2 ew2 => ?_)
      refine g_istore (lv' := [(0, .ref (q 0)), (1, .int (iZ sa)), (2, .int (iZ la)), (3, .int (iZ fa)), (4, .int (iZ (a0 : Int))), (5, .int (iZ (i : Int))), (6, .int (iZ w2))]) [1, 2, 3, 4, 5, 6, 0] C dX7_read_97 (by decide) rfl ?_
      refine g_iload 5 C rfl dX7_read_99 ?_
      refine g_if_ne 108 C (by unfold I32; omega) dX7_read_101 (by decide) (fun h3 => ?_) (fun h3 => ?_)
      · refine g_aload_n 0 C rfl dX7_read_108 rfl ?_
        refine gf_X7_32 C dX7_read_109 ?_
        refine g_iload 4 C rfl dX7_read_112 ?_
        refine g_iconst C dX7_read_114 ?_
        refine g_iload 5 C rfl dX7_read_115 ?_
        refine g_imul C dX7_read_117 ?_
        refine g_iadd C dX7_read_118 ?_
        refine g_iconst C dX7_read_119 ?_
        refine g_isub C dX7_read_120 ?_
        refine g_iald C 7 ((a0 + (4 * i)) - 4) (by decide) (fun _ => rfl) (by omega) (by omega) (by decide) dX7_read_121 ?_
        refine g_iname (fun w4 ew4 => ?_)
        refine g_istore (lv' := [(0, .ref (q 0)), (1, .int (iZ sa)), (2, .int (iZ la)), (3, .int (iZ fa)), (4, .int (iZ (a0 : Int))), (5, .int (iZ (i : Int))), (6, .int (iZ w2)), (7, .int (iZ w4))]) [1, 2, 3, 4, 5, 6, 7, 0] C dX7_read_122 (by decide) rfl ?_
        refine g_aload_n 0 C rfl dX7_read_124 rfl ?_
        refine gf_X7_32 C dX7_read_125 ?_
        refine g_iload 4 C rfl dX7_read_128 ?_
        refine g_iconst C dX7_read_130 ?_
        refine g_iload 5 C rfl dX7_read_131 ?_
        refine g_imul C dX7_read_133 ?_
        refine g_iadd C dX7_read_134 ?_
        refine g_iconst C dX7_read_135 ?_
        refine g_iadd C dX7_read_136 ?_
        refine g_iald C 7 ((a0 + (4 * i)) + 2) (by decide) (fun _ => rfl) (by omega) (by omega) (by decide) dX7_read_137 ?_
        refine g_iname (fun w5 ew5 => ?_)
        refine g_istore (lv' := [(0, .ref (q 0)), (1, .int (iZ sa)), (2, .int (iZ la)), (3, .int (iZ fa)), (4, .int (iZ (a0 : Int))), (5, .int (iZ (i : Int))), (6, .int (iZ w2)), (7, .int (iZ w4)), (8, .int (iZ w5))]) [1, 2, 3, 4, 5, 6, 7, 8, 0] C dX7_read_138 (by decide) rfl ?_
        refine g_iload 5 C rfl dX7_read_140 ?_
        refine g_if_ne 150 C (by unfold I32; omega) dX7_read_142 (by decide) (fun h6 => ?_) (fun h6 => ?_)
        · refine g_iload 6 C rfl dX7_read_150 ?_
          refine g_iload 7 C rfl dX7_read_152 ?_
          refine g_icmp_le 223 C (by rw [ew2]; exact hit _ (by omega)) (by rw [ew4]; exact hit _ (by omega)) dX7_read_154 (by decide) (fun h7 => ?_) (fun h7 => ?_)
          · refine g_bipush C dX7_read_223 (by decide) ?_
            refine g_iret (u := σ) C T dX7_read_225 ?_
            refine ⟨_, rfl, Or.inr ⟨hR, Or.inl ⟨fun h => ?_, rfl, rfl⟩⟩⟩
            have hq9 := h i (by omega)
            rw [← ha] at hq9
            subst ew5
            subst ew4
            subst ew2
            unfold RdJ at hq9
            omega
          · refine g_iload 6 C rfl dX7_read_157 ?_
            refine g_bipush C dX7_read_159 (by decide) ?_
            refine g_icmp_gt 223 C (by rw [ew2]; exact hit _ (by omega)) (by unfold I32; omega) dX7_read_161 (by decide) (fun h8 => ?_) (fun h8 => ?_)
            · refine g_bipush C dX7_read_223 (by decide) ?_
              refine g_iret (u := σ) C T dX7_read_225 ?_
              refine ⟨_, rfl, Or.inr ⟨hR, Or.inl ⟨fun h => ?_, rfl, rfl⟩⟩⟩
              have hq9 := h i (by omega)
              rw [← ha] at hq9
              subst ew5
              subst ew4
              subst ew2
              unfold RdJ at hq9
              omega
            · refine g_aload_n 0 C rfl dX7_read_164 rfl ?_
              refine gf_X7_32 C dX7_read_165 ?_
              refine g_iload 4 C rfl dX7_read_168 ?_
              refine g_iconst C dX7_read_170 ?_
              refine g_iload 5 C rfl dX7_read_171 ?_
              refine g_imul C dX7_read_173 ?_
              refine g_iadd C dX7_read_174 ?_
              refine g_iconst C dX7_read_175 ?_
              refine g_iadd C dX7_read_176 ?_
              refine g_iald C 7 ((a0 + (4 * i)) + 1) (by decide) (fun _ => rfl) (by omega) (by omega) (by decide) dX7_read_177 ?_
              refine g_i2l C dX7_read_178 (hit _ (by omega)) ?_
              refine g_ldc2 (-20) C wk_X7_65 (by decide) dX7_read_179 ?_
              refine g_iload 8 C rfl dX7_read_182 ?_
              refine g_i2l C dX7_read_184 (by rw [ew5]; exact hit _ (by omega)) ?_
              refine g_callSI C (c_X7_in g (v := σ 7 ((a0 + (4 * i)) + 1)) (a := (-20)) (b := w5) (I64_32 (hit _ (by omega))) (by unfold I64; omega) (I64_32 (by rw [ew5]; exact hit _ (by omega)))) gs_X7_59 yd_X7_in ⟨by decide, by decide⟩ rfl (Nat.le_of_ble_eq_true rfl) dX7_read_185 ?_
              rintro _ rfl
              refine g_beq 223 C dX7_read_188 (by decide) (fun h9 => ?_) (fun h9 => ?_)
              · refine g_bipush C dX7_read_223 (by decide) ?_
                refine g_iret (u := σ) C T dX7_read_225 ?_
                refine ⟨_, rfl, Or.inr ⟨hR, Or.inl ⟨fun h => ?_, rfl, rfl⟩⟩⟩
                have hq9 := h i (by omega)
                rw [← ha] at hq9
                subst ew5
                subst ew4
                subst ew2
                unfold RdJ at hq9
                omega
              · refine g_iload 8 C rfl dX7_read_191 ?_
                refine g_bipush C dX7_read_193 (by decide) ?_
                refine g_icmp_gt 223 C (by rw [ew5]; exact hit _ (by omega)) (by unfold I32; omega) dX7_read_195 (by decide) (fun h10 => ?_) (fun h10 => ?_)
                · refine g_bipush C dX7_read_223 (by decide) ?_
                  refine g_iret (u := σ) C T dX7_read_225 ?_
                  refine ⟨_, rfl, Or.inr ⟨hR, Or.inl ⟨fun h => ?_, rfl, rfl⟩⟩⟩
                  have hq9 := h i (by omega)
                  rw [← ha] at hq9
                  subst ew5
                  subst ew4
                  subst ew2
                  unfold RdJ at hq9
                  omega
                · refine g_aload_n 0 C rfl dX7_read_198 rfl ?_
                  refine gf_X7_32 C dX7_read_199 ?_
                  refine g_iload 4 C rfl dX7_read_202 ?_
                  refine g_iconst C dX7_read_204 ?_
                  refine g_iload 5 C rfl dX7_read_205 ?_
                  refine g_imul C dX7_read_207 ?_
                  refine g_iadd C dX7_read_208 ?_
                  refine g_iconst C dX7_read_209 ?_
                  refine g_iadd C dX7_read_210 ?_
                  refine g_iald C 7 ((a0 + (4 * i)) + 3) (by decide) (fun _ => rfl) (by omega) (by omega) (by decide) dX7_read_211 ?_
                  refine g_i2l C dX7_read_212 (hit _ (by omega)) ?_
                  refine g_lconst 0 C dX7_read_213 (by decide) ?_
                  refine g_ldc2 10 C wk_X7_67 (by decide) dX7_read_214 ?_
                  refine g_callSI C (c_X7_in g (v := σ 7 ((a0 + (4 * i)) + 3)) (a := 0) (b := 10) (I64_32 (hit _ (by omega))) (by unfold I64; omega) (by unfold I64; omega)) gs_X7_59 yd_X7_in ⟨by decide, by decide⟩ rfl (Nat.le_of_ble_eq_true rfl) dX7_read_217 ?_
                  rintro _ rfl
                  refine g_bne 226 C dX7_read_220 (by decide) (fun h11 => ?_) (fun h11 => ?_)
                  · refine g_iinc (lv' := [(0, .ref (q 0)), (1, .int (iZ sa)), (2, .int (iZ la)), (3, .int (iZ fa)), (4, .int (iZ (a0 : Int))), (5, .int (iZ ((i : Int) + 1))), (6, .int (iZ w2)), (7, .int (iZ w4)), (8, .int (iZ w5))]) 5 [1, 2, 3, 4, 5, 0, 6, 7, 8] C rfl dX7_read_226 (by decide) rfl ?_
                    refine g_goto 76 C dX7_read_229 (by decide) ?_
                    subst ew5
                    subst ew4
                    subst ew2
                    refine g_lv [0, 1, 2, 3, 4, 5] rfl ?_
                    refine ih (i + 1) (by omega) (by omega) (fun i' h9 => ?_)
                    rcases Nat.lt_or_ge i' i with h8 | h8
                    · exact hI i' h8
                    · obtain rfl : i' = i := by omega
                      unfold RdJ; omega
                  · refine g_bipush C dX7_read_223 (by decide) ?_
                    refine g_iret (u := σ) C T dX7_read_225 ?_
                    refine ⟨_, rfl, Or.inr ⟨hR, Or.inl ⟨fun h => ?_, rfl, rfl⟩⟩⟩
                    have hq9 := h i (by omega)
                    rw [← ha] at hq9
                    subst ew5
                    subst ew4
                    subst ew2
                    unfold RdJ at hq9
                    omega
        · exact absurd h6 (by first | decide | omega)
      · refine g_iconst C dX7_read_104 ?_
        refine g_goto 122 C dX7_read_105 (by decide) ?_
        refine g_istore (lv' := [(0, .ref (q 0)), (1, .int (iZ sa)), (2, .int (iZ la)), (3, .int (iZ fa)), (4, .int (iZ (a0 : Int))), (5, .int (iZ (i : Int))), (6, .int (iZ w2)), (7, .int (iZ (-1)))]) [1, 2, 3, 4, 5, 6, 7, 0] C dX7_read_122 (by decide) rfl ?_
        refine g_aload_n 0 C rfl dX7_read_124 rfl ?_
        refine gf_X7_32 C dX7_read_125 ?_
        refine g_iload 4 C rfl dX7_read_128 ?_
        refine g_iconst C dX7_read_130 ?_
        refine g_iload 5 C rfl dX7_read_131 ?_
        refine g_imul C dX7_read_133 ?_
        refine g_iadd C dX7_read_134 ?_
        refine g_iconst C dX7_read_135 ?_
        refine g_iadd C dX7_read_136 ?_
        refine g_iald C 7 ((a0 + (4 * i)) + 2) (by decide) (fun _ => rfl) (by omega) (by omega) (by decide) dX7_read_137 ?_
        refine g_iname (fun w12 ew12 => ?_)
        refine g_istore (lv' := [(0, .ref (q 0)), (1, .int (iZ sa)), (2, .int (iZ la)), (3, .int (iZ fa)), (4, .int (iZ (a0 : Int))), (5, .int (iZ (i : Int))), (6, .int (iZ w2)), (7, .int (iZ (-1))), (8, .int (iZ w12))]) [1, 2, 3, 4, 5, 6, 7, 8, 0] C dX7_read_138 (by decide) rfl ?_
        refine g_iload 5 C rfl dX7_read_140 ?_
        refine g_if_ne 150 C (by unfold I32; omega) dX7_read_142 (by decide) (fun h13 => ?_) (fun h13 => ?_)
        · exact absurd h13 (by first | decide | omega)
        refine g_iload 6 C rfl dX7_read_145 ?_
        refine g_if_ne 223 C (by rw [ew2]; exact hit _ (by omega)) dX7_read_147 (by decide) (fun h14 => ?_) (fun h14 => ?_)
        · refine g_bipush C dX7_read_223 (by decide) ?_
          refine g_iret (u := σ) C T dX7_read_225 ?_
          refine ⟨_, rfl, Or.inr ⟨hR, Or.inl ⟨fun h => ?_, rfl, rfl⟩⟩⟩
          have hq9 := h i (by omega)
          rw [← ha] at hq9
          subst ew12
          subst ew2
          unfold RdJ at hq9
          omega
        · refine g_iload 6 C rfl dX7_read_150 ?_
          refine g_iload 7 C rfl dX7_read_152 ?_
          refine g_icmp_le 223 C (by rw [ew2]; exact hit _ (by omega)) (by unfold I32; omega) dX7_read_154 (by decide) (fun h15 => ?_) (fun h15 => ?_)
          · refine g_bipush C dX7_read_223 (by decide) ?_
            refine g_iret (u := σ) C T dX7_read_225 ?_
            refine ⟨_, rfl, Or.inr ⟨hR, Or.inl ⟨fun h => ?_, rfl, rfl⟩⟩⟩
            have hq9 := h i (by omega)
            rw [← ha] at hq9
            subst ew12
            subst ew2
            unfold RdJ at hq9
            omega
          · refine g_iload 6 C rfl dX7_read_157 ?_
            refine g_bipush C dX7_read_159 (by decide) ?_
            refine g_icmp_gt 223 C (by rw [ew2]; exact hit _ (by omega)) (by unfold I32; omega) dX7_read_161 (by decide) (fun h16 => ?_) (fun h16 => ?_)
            · refine g_bipush C dX7_read_223 (by decide) ?_
              refine g_iret (u := σ) C T dX7_read_225 ?_
              refine ⟨_, rfl, Or.inr ⟨hR, Or.inl ⟨fun h => ?_, rfl, rfl⟩⟩⟩
              have hq9 := h i (by omega)
              rw [← ha] at hq9
              subst ew12
              subst ew2
              unfold RdJ at hq9
              omega
            · refine g_aload_n 0 C rfl dX7_read_164 rfl ?_
              refine gf_X7_32 C dX7_read_165 ?_
              refine g_iload 4 C rfl dX7_read_168 ?_
              refine g_iconst C dX7_read_170 ?_
              refine g_iload 5 C rfl dX7_read_171 ?_
              refine g_imul C dX7_read_173 ?_
              refine g_iadd C dX7_read_174 ?_
              refine g_iconst C dX7_read_175 ?_
              refine g_iadd C dX7_read_176 ?_
              refine g_iald C 7 ((a0 + (4 * i)) + 1) (by decide) (fun _ => rfl) (by omega) (by omega) (by decide) dX7_read_177 ?_
              refine g_i2l C dX7_read_178 (hit _ (by omega)) ?_
              refine g_ldc2 (-20) C wk_X7_65 (by decide) dX7_read_179 ?_
              refine g_iload 8 C rfl dX7_read_182 ?_
              refine g_i2l C dX7_read_184 (by rw [ew12]; exact hit _ (by omega)) ?_
              refine g_callSI C (c_X7_in g (v := σ 7 ((a0 + (4 * i)) + 1)) (a := (-20)) (b := w12) (I64_32 (hit _ (by omega))) (by unfold I64; omega) (I64_32 (by rw [ew12]; exact hit _ (by omega)))) gs_X7_59 yd_X7_in ⟨by decide, by decide⟩ rfl (Nat.le_of_ble_eq_true rfl) dX7_read_185 ?_
              rintro _ rfl
              refine g_beq 223 C dX7_read_188 (by decide) (fun h17 => ?_) (fun h17 => ?_)
              · refine g_bipush C dX7_read_223 (by decide) ?_
                refine g_iret (u := σ) C T dX7_read_225 ?_
                refine ⟨_, rfl, Or.inr ⟨hR, Or.inl ⟨fun h => ?_, rfl, rfl⟩⟩⟩
                have hq9 := h i (by omega)
                rw [← ha] at hq9
                subst ew12
                subst ew2
                unfold RdJ at hq9
                omega
              · refine g_iload 8 C rfl dX7_read_191 ?_
                refine g_bipush C dX7_read_193 (by decide) ?_
                refine g_icmp_gt 223 C (by rw [ew12]; exact hit _ (by omega)) (by unfold I32; omega) dX7_read_195 (by decide) (fun h18 => ?_) (fun h18 => ?_)
                · refine g_bipush C dX7_read_223 (by decide) ?_
                  refine g_iret (u := σ) C T dX7_read_225 ?_
                  refine ⟨_, rfl, Or.inr ⟨hR, Or.inl ⟨fun h => ?_, rfl, rfl⟩⟩⟩
                  have hq9 := h i (by omega)
                  rw [← ha] at hq9
                  subst ew12
                  subst ew2
                  unfold RdJ at hq9
                  omega
                · refine g_aload_n 0 C rfl dX7_read_198 rfl ?_
                  refine gf_X7_32 C dX7_read_199 ?_
                  refine g_iload 4 C rfl dX7_read_202 ?_
                  refine g_iconst C dX7_read_204 ?_
                  refine g_iload 5 C rfl dX7_read_205 ?_
                  refine g_imul C dX7_read_207 ?_
                  refine g_iadd C dX7_read_208 ?_
                  refine g_iconst C dX7_read_209 ?_
                  refine g_iadd C dX7_read_210 ?_
                  refine g_iald C 7 ((a0 + (4 * i)) + 3) (by decide) (fun _ => rfl) (by omega) (by omega) (by decide) dX7_read_211 ?_
                  refine g_i2l C dX7_read_212 (hit _ (by omega)) ?_
                  refine g_lconst 0 C dX7_read_213 (by decide) ?_
                  refine g_ldc2 10 C wk_X7_67 (by decide) dX7_read_214 ?_
                  refine g_callSI C (c_X7_in g (v := σ 7 ((a0 + (4 * i)) + 3)) (a := 0) (b := 10) (I64_32 (hit _ (by omega))) (by unfold I64; omega) (by unfold I64; omega)) gs_X7_59 yd_X7_in ⟨by decide, by decide⟩ rfl (Nat.le_of_ble_eq_true rfl) dX7_read_217 ?_
                  rintro _ rfl
                  refine g_bne 226 C dX7_read_220 (by decide) (fun h19 => ?_) (fun h19 => ?_)
                  · refine g_iinc (lv' := [(0, .ref (q 0)), (1, .int (iZ sa)), (2, .int (iZ la)), (3, .int (iZ fa)), (4, .int (iZ (a0 : Int))), (5, .int (iZ ((i : Int) + 1))), (6, .int (iZ w2)), (7, .int (iZ (-1))), (8, .int (iZ w12))]) 5 [1, 2, 3, 4, 5, 0, 6, 7, 8] C rfl dX7_read_226 (by decide) rfl ?_
                    refine g_goto 76 C dX7_read_229 (by decide) ?_
                    subst ew12
                    subst ew2
                    refine g_lv [0, 1, 2, 3, 4, 5] rfl ?_
                    refine ih (i + 1) (by omega) (by omega) (fun i' h9 => ?_)
                    rcases Nat.lt_or_ge i' i with h8 | h8
                    · exact hI i' h8
                    · obtain rfl : i' = i := by omega
                      unfold RdJ; omega
                  · refine g_bipush C dX7_read_223 (by decide) ?_
                    refine g_iret (u := σ) C T dX7_read_225 ?_
                    refine ⟨_, rfl, Or.inr ⟨hR, Or.inl ⟨fun h => ?_, rfl, rfl⟩⟩⟩
                    have hq9 := h i (by omega)
                    rw [← ha] at hq9
                    subst ew12
                    subst ew2
                    unfold RdJ at hq9
                    omega
set_option maxHeartbeats 4000000 in
set_option maxRecDepth 20000 in
theorem c_X7_read (g : Gx) {q : Nat → Nat} {σ : Nat → Nat → Int} {nn : Nat} (hn : σ 0 0 = (nn : Int)) (hn2 : 2 ≤ nn) (hn6 : nn ≤ 6) (hln : ∀ s, s < 4 → -1 ≤ σ 5 s ∧ σ 5 s ≤ 2) (hsz : ∀ s, s < 4 → 0 ≤ σ 6 s ∧ σ 6 s ≤ 28) (hit : ∀ j, j < 112 → I32 (σ 7 j)) {sa la fa : Int} (h_sa : I32 sa) (h_la : I32 la) (h_fa : I32 fa) : MC g yX7_read cX7_read 9 ((some .int)) 2 46 (WM g q σ) [.ref (q 0), .int (iZ sa), .int (iZ la), .int (iZ fa)] (fun u => WM g q u) (pI (fun z u => (itR (σ 5) (σ 6) nn sa la fa ≠ 1 ∧ z = itR (σ 5) (σ 6) nn sa la fa ∧ u = σ) ∨ (itR (σ 5) (σ 6) nn sa la fa = 1 ∧ ((¬ (∀ i, i ≤ nn → RdJ (σ 7) (28 * sa + fa).toNat i) ∧ z = -2 ∧ u = σ) ∨ ((∀ i, i ≤ nn → RdJ (σ 7) (28 * sa + fa).toNat i) ∧ z = 1 ∧ u = rdS σ (σ 7) 1 2 3 4 nn (28 * sa + fa).toNat))))) := by
  refine MC_intro (own := RX7) rfl (by decide) (Nat.le_of_ble_eq_true rfl) (fun K C T => ?_)
  show GJ g K (WM g q σ) 0 [(0, .ref (q 0)), (1, .int (iZ sa)), (2, .int (iZ la)), (3, .int (iZ fa))] []
  refine g_iload_n 1 C rfl dX7_read_0 rfl ?_
  refine g_iload_n 2 C rfl dX7_read_1 rfl ?_
  refine g_callSI C (c_X7_isSheet g h_sa h_la) gs_X7_71 yd_X7_isSheet ⟨by decide, by decide⟩ rfl (Nat.le_of_ble_eq_true rfl) dX7_read_2 ?_
  rintro _ rfl
  refine g_bne 10 C dX7_read_5 (by decide) (fun h1 => ?_) (fun h1 => ?_)
  · refine g_aload_n 0 C rfl dX7_read_10 rfl ?_
    refine gf_X7_26 C dX7_read_11 ?_
    refine g_iload_n 1 C rfl dX7_read_14 rfl ?_
    refine g_iald C 5 ((sa).toNat) (by decide) (fun _ => rfl) (by omega) (by omega) (by decide) dX7_read_15 ?_
    refine g_iload_n 2 C rfl dX7_read_16 rfl ?_
    refine g_icmp_eq 37 C (by have h5 := hln sa.toNat (by omega); unfold I32; omega) h_la dX7_read_17 (by decide) (fun h2 => ?_) (fun h2 => ?_)
    · refine g_iload_n 3 C rfl dX7_read_37 rfl ?_
      refine g_i2l C dX7_read_38 h_fa ?_
      refine g_lconst 0 C dX7_read_39 (by decide) ?_
      refine g_aload_n 0 C rfl dX7_read_40 rfl ?_
      refine gf_X7_29 C dX7_read_41 ?_
      refine g_iload_n 1 C rfl dX7_read_44 rfl ?_
      refine g_iald C 6 ((sa).toNat) (by decide) (fun _ => rfl) (by omega) (by omega) (by decide) dX7_read_45 ?_
      refine g_iconst C dX7_read_46 ?_
      refine g_aload_n 0 C rfl dX7_read_47 rfl ?_
      refine gf_X7_7 C dX7_read_48 ?_
      rw [show σ 0 0 = (nn : Int) from hn]
      refine g_imul C dX7_read_51 ?_
      refine g_isub C dX7_read_52 ?_
      refine g_iconst C dX7_read_53 ?_
      refine g_isub C dX7_read_54 ?_
      refine g_i2l C dX7_read_55 (by have h5 := hsz sa.toNat (by omega); unfold I32; omega) ?_
      refine g_callSI C (c_X7_in g (v := fa) (a := 0) (b := ((σ 6 ((sa).toNat)) - (4 * (nn : Int))) - 4) (I64_32 h_fa) (by unfold I64; omega) (by have h5 := hsz sa.toNat (by omega); unfold I64; omega)) gs_X7_59 yd_X7_in ⟨by decide, by decide⟩ rfl (Nat.le_of_ble_eq_true rfl) dX7_read_56 ?_
      rintro _ rfl
      refine g_bne 65 C dX7_read_59 (by decide) (fun h3 => ?_) (fun h3 => ?_)
      · refine g_bipush C dX7_read_65 (by decide) ?_
        refine g_iload_n 1 C rfl dX7_read_67 rfl ?_
        refine g_imul C dX7_read_68 ?_
        refine g_iload_n 3 C rfl dX7_read_69 rfl ?_
        refine g_iadd C dX7_read_70 ?_
        refine g_iname (fun w4 ew4 => ?_)
        refine g_istore (lv' := [(0, .ref (q 0)), (1, .int (iZ sa)), (2, .int (iZ la)), (3, .int (iZ fa)), (4, .int (iZ w4))]) [1, 2, 3, 4, 0] C dX7_read_71 (by decide) rfl ?_
        refine g_iconst C dX7_read_73 ?_
        refine g_istore (lv' := [(0, .ref (q 0)), (1, .int (iZ sa)), (2, .int (iZ la)), (3, .int (iZ fa)), (4, .int (iZ w4)), (5, .int (iZ 0))]) [1, 2, 3, 4, 5, 0] C dX7_read_74 (by decide) rfl ?_
        have hs5 := hsz sa.toNat (by omega)
        have e9 : w4 = (((28 * sa + fa).toNat : Nat) : Int) := by omega
        rw [e9]
        exact rd1_X7 hn hn6 hit (by unfold itR; (repeat' split) <;> first | rfl | (exfalso; omega)) rfl (by omega) C T (nn + 2) 0 (by omega) (by omega) (fun i9 h9 => absurd h9 (by omega))
      · refine g_bipush C dX7_read_62 (by decide) ?_
        refine g_iret (u := σ) C T dX7_read_64 ?_
        refine ⟨_, rfl, Or.inl ⟨?_, ?_, rfl⟩⟩ <;> unfold itR <;> (repeat' split) <;> first | decide | rfl | (exfalso; omega)
    · refine g_aload_n 0 C rfl dX7_read_20 rfl ?_
      refine gf_X7_26 C dX7_read_21 ?_
      refine g_iload_n 1 C rfl dX7_read_24 rfl ?_
      refine g_iald C 5 ((sa).toNat) (by decide) (fun _ => rfl) (by omega) (by omega) (by decide) dX7_read_25 ?_
      refine g_if_ge 34 C (by have h5 := hln sa.toNat (by omega); unfold I32; omega) dX7_read_26 (by decide) (fun h5 => ?_) (fun h5 => ?_)
      · refine g_bipush C dX7_read_34 (by decide) ?_
        refine g_iret (u := σ) C T dX7_read_36 ?_
        refine ⟨_, rfl, Or.inl ⟨?_, ?_, rfl⟩⟩ <;> unfold itR <;> (repeat' split) <;> first | decide | rfl | (exfalso; omega)
      · refine g_bipush C dX7_read_29 (by decide) ?_
        refine g_goto 36 C dX7_read_31 (by decide) ?_
        refine g_iret (u := σ) C T dX7_read_36 ?_
        refine ⟨_, rfl, Or.inl ⟨?_, ?_, rfl⟩⟩ <;> unfold itR <;> (repeat' split) <;> first | decide | rfl | (exfalso; omega)
  · refine g_iconst C dX7_read_8 ?_
    refine g_iret (u := σ) C T dX7_read_9 ?_
    refine ⟨_, rfl, Or.inl ⟨?_, ?_, rfl⟩⟩ <;> unfold itR <;> (repeat' split) <;> first | decide | rfl | (exfalso; omega)
