theorem g_tsOut {g : Gx} {K : Kx} {cc : ByteArray} {own : String} {n fr lo : Nat} {ws : va_W} {pc : Nat} {lv : List (Nat × Value)} {rest : List Value} {dfl l9 h9 z : Int} {offs : Array Int} {len : Nat} (tgt : Nat) (C : CX g K cc own n fr lo) (hz : I32 z) (hd : decode cc pc = .ok (.tableswitch dfl l9 h9 offs, len)) (h : z < l9 ∨ h9 < z) (ht : (pc : Int) + dfl = (tgt : Int)) (k : GJ g K ws tgt lv rest) : GJ g K ws pc lv (.int (iZ z) :: rest) := by
  obtain ⟨p, e, R, s, m, args, below, meth, c, A, Q, nL⟩ := K
  obtain ⟨hx, hb, hml, hown, hts, hK, hlk, hA, hfr, hlo, hN, hn⟩ := C
  intro H locs ls hP hD hS hl
  exact lv_tableOut hx hb hd (by rw [iZ_toInt hz]; exact h) ht (k H locs ls hP hD hS hl)
theorem g_tsIn {g : Gx} {K : Kx} {cc : ByteArray} {own : String} {n fr lo : Nat} {ws : va_W} {pc : Nat} {lv : List (Nat × Value)} {rest : List Value} {dfl l9 h9 z off : Int} {offs : Array Int} {len : Nat} (tgt : Nat) (C : CX g K cc own n fr lo) (hz : I32 z) (hd : decode cc pc = .ok (.tableswitch dfl l9 h9 offs, len)) (h1 : ¬ z < l9) (h2 : ¬ h9 < z) (ho : offs[(z - l9).toNat]? = some off) (ht : (pc : Int) + off = (tgt : Int)) (k : GJ g K ws tgt lv rest) : GJ g K ws pc lv (.int (iZ z) :: rest) := by
  obtain ⟨p, e, R, s, m, args, below, meth, c, A, Q, nL⟩ := K
  obtain ⟨hx, hb, hml, hown, hts, hK, hlk, hA, hfr, hlo, hN, hn⟩ := C
  intro H locs ls hP hD hS hl
  exact lv_tableIn hx hb hd (by rw [iZ_toInt hz]; exact h1) (by rw [iZ_toInt hz]; exact h2) (by rw [iZ_toInt hz]; exact ho) ht (k H locs ls hP hD hS hl)
theorem g_alen {g : Gx} {K : Kx} {cc : ByteArray} {own : String} {n fr lo : Nat} {nC : Nat} {E : Nat → (Nat → Int) → va_E} {q : Nat → Nat} {σ : Nat → Nat → Int} {pc : Nat} {lv : List (Nat × Value)} {rest : List Value} (C : CX g K cc own n fr lo) (c0 : Nat) {len : Nat} {z : Int} (hc : c0 < nC) (hE : ∀ f : Nat → Int, E c0 f = .inl (g.2.2.1, len, .inl (fun j => iZ (f j)))) (hz : Int32.ofNat len = iZ z) (hd : decode cc pc = .ok (.arraylength, 1)) (kk : GJ g K (WD nC E q σ) (pc + 1) lv (.int (iZ z) :: rest)) : GJ g K (WD nC E q σ) pc lv (.ref (q c0) :: rest) := by
  obtain ⟨p, e, R, s, m, args, below, meth, c, A, Q, nL⟩ := K
  obtain ⟨hx, hb, hml, hown, hts, hK, hlk, hA, hfr, hlo, hN, hn⟩ := C
  intro H locs ls hP hD hS hl
  exact va_alen hx hb hK hP c0 0 ((WD_get hc).trans (by rw [hE])) rfl hz hd (kk H locs ls hP hD hS hl)
/-- a call of a static method over the caller's own world -/
theorem g_callSW {g : Gx} {K : Kx} {cc : ByteArray} {own : String} {n fr lo : Nat} {ws : va_W} {pc : Nat} {lv : List (Nat × Value)} {rest : List Value} (C : CX g K cc own n fr lo) {S : Type} {y : MethodName} {cc' : ByteArray} {maxL' fr' lo' : Nat} {ret' : Option FieldType} {idx : Nat} {as st : List Value} {Wf : S → va_W} {post : Option Value → S → Prop}
    (M : MC g y cc' maxL' ret' fr' lo' ws as Wf post) (h1 : Cond.methodLink own idx y ∈ BIG) (h2 : Cond.static y ∈ BIG) (h3 : Cond.initialized y.cls ∈ BIG) (h4 : Cond.code y cc' maxL' ret' ∈ BIG) (hd0 : y.cls ≠ "java/lang/invoke/MethodHandle" ∧ y.cls ≠ "java/lang/invoke/VarHandle" ∧ (parseMethodDescriptor y.desc).map (fun d => d.parameters.length) = some as.length) (hr : fr' + 1 ≤ fr ∧ 8 + (maxL' + 11) + lo' ≤ lo) (hst : st = as.reverse ++ rest) (hW : (rest.map fun v => v.category).sum ≤ 8) (hd : decode cc pc = .ok (.invokestatic idx, 3))
    (k : ∀ (v : Option Value) (u : S), post v u → GJ g K (Wf u) (pc + 3) lv (v.toList ++ rest)) : GJ g K ws pc lv st := by
  obtain ⟨p, e, R, s, m, args, below, meth, c, A, Q, nL⟩ := K
  obtain ⟨hx, hb, hml, hown, hts, hK, hlk, hA, hfr, hlo, hN, hn⟩ := C
  intro H locs ls hP hD hS hl
  subst hfr; subst hlo
  have hF : ∀ q, va_A ws H.size q → A q := by
    rintro q (⟨k, e, h⟩ | h)
    · exact hD.2 k (q, e) h
    · exact hA q (Nat.le_trans hS.1 h)
  have cw : CallB R s args own idx y cc' maxL' ret' (Cond.code y cc' maxL' ret' :: BIG) ({ frames := fr', cells := 0, slots := 0, locals := lo' }) 0 0 as.length ∧ (Cond.static y).before args s = true := by
    refine ⟨⟨rfl, rfl, hr.1, hr.2, pay_in hts (good_code h4), List.mem_cons_self, hts _ h4, hts _ h3, ⟨hd0.1, hd0.2.1⟩, fun sig h => ?_, hts _ h1⟩, hts _ h2⟩
    have h5 := hd0.2.2
    rw [h] at h5
    exact (Option.some.inj h5).symm
  refine w_call (va_runS (As := as) (rest := rest) ⟨hx, hb, hml, hown, hts⟩ (M H.size) cw ⟨blind_MC, fun U hU hW => ⟨rfl, by rw [hU], by rw [hU]; exact hP, va_K.moved hW.alike hK, hD.weaken (fun _ _ _ _ => trivial), hN.warm hW⟩⟩ rfl rfl hl.1 hst (cats hW) hd ⟨Nat.zero_le _, Nat.zero_le _⟩) hS (fun q _ h => hF q h) hF (fun v u H1 locs1 hp hP1 hD1 hz1 hk1 hS1 => ?_)
  exact k v u hp H1 locs1 ls hP1 (hD1.weaken (fun _ _ _ h => hF _ h)) hS1 hl
/-- a call of a nest mate's static method that touches no cell -/
theorem g_callSN {g : Gx} {K : Kx} {cc : ByteArray} {own : String} {n fr lo : Nat} {ws : va_W} {pc : Nat} {lv : List (Nat × Value)} {rest : List Value} (C : CX g K cc own n fr lo) {y : MethodName} {cc' : ByteArray} {maxL' fr' lo' : Nat} {ret' : Option FieldType} {idx : Nat} {host : String} {as st : List Value} {P : Int → Unit → Prop}
    (M : MC g y cc' maxL' ret' fr' lo' [] as (fun _ : Unit => []) (pI P)) (h1 : Cond.methodLinkNest own idx y host ∈ nwL) (h2 : Cond.static y ∈ BIG) (h3 : Cond.initialized y.cls ∈ BIG) (h4 : Cond.code y cc' maxL' ret' ∈ BIG) (hd0 : y.cls ≠ "java/lang/invoke/MethodHandle" ∧ y.cls ≠ "java/lang/invoke/VarHandle" ∧ (parseMethodDescriptor y.desc).map (fun d => d.parameters.length) = some as.length) (hr : fr' + 1 ≤ fr ∧ 8 + (maxL' + 11) + lo' ≤ lo) (hst : st = as.reverse ++ rest) (hW : (rest.map fun v => v.category).sum ≤ 8) (hd : decode cc pc = .ok (.invokestatic idx, 3))
    (k : ∀ z : Int, P z () → GJ g K ws (pc + 3) lv (.int (iZ z) :: rest)) : GJ g K ws pc lv st := by
  obtain ⟨p, e, R, s, m, args, below, meth, c, A, Q, nL⟩ := K
  obtain ⟨hx, hb, hml, hown, hts, hK, hlk, hA, hfr, hlo, hN, hn⟩ := C
  intro H locs ls hP hD hS hl
  subst hfr; subst hlo
  have hF : ∀ q, va_A [] H.size q → A q := by
    rintro q (⟨k, e, h⟩ | h)
    · simp at h
    · exact hA q (Nat.le_trans hS.1 h)
  refine w_call (va_runSN (As := as) (rest := rest) ⟨hx, hb, hml, hown, hts⟩ (M H.size) ⟨va_cnB as.length hts (good_code h4) rfl rfl rfl (hN _ h1) (hts _ h3) hd0 hr, hts _ h2, trivial⟩ ⟨blind_MC, fun U hU hW => ⟨rfl, by rw [hU], fun k q h => by simp at h, va_K.moved hW.alike hK, ⟨fun i j p q h => by simp at h, fun k q h => by simp at h⟩, hN.warm hW⟩⟩ rfl rfl hl.1 hst (cats hW) hd ⟨Nat.zero_le _, Nat.zero_le _⟩) hS (fun q _ h => hF q h) hF (fun v u H1 locs1 hp hP1 hD1 hz1 hk1 hS1 => ?_)
  obtain ⟨z, rfl, h⟩ := hp
  exact k z h H1 locs1 ls (kept_all hP hk1) hD hS1 hl
def cpyI (f g : Nat → Int) (n : Nat) : Nat → Int := fun j => if j < n then f j else g j
/-- System.arraycopy of the first ints of one row into another -/
theorem g_acopy {g : Gx} {K : Kx} {cc : ByteArray} {own : String} {n fr lo : Nat} {nC : Nat} {E : Nat → (Nat → Int) → va_E} {q : Nat → Nat} {σ : Nat → Nat → Int} {pc : Nat} {lv : List (Nat × Value)} {rest : List Value} (C : CX g K cc own n fr lo) (c0 c1 N : Nat) {len len1 idx : Nat} (hc : c0 < nC) (hc1 : c1 < nC) (hE : ∀ f : Nat → Int, E c0 f = .inl (g.2.2.1, len, .inl (fun j => iZ (f j)))) (hE1 : ∀ f : Nat → Int, E c1 f = .inl (g.2.2.1, len1, .inl (fun j => iZ (f j)))) (hN9 : N ≤ len ∧ N ≤ len1 ∧ N ≤ 1000) (h1 : Cond.methodLink own idx arraycopyName ∈ BIG) (hfr9 : 1 ≤ fr) (hlo9 : (rest.map fun v => v.category).sum + (nativeFrameWords "java/lang/System" "arraycopy" 5 + 11) ≤ lo) (hd : decode cc pc = .ok (.invokestatic idx, 3)) (k : GJ g K (WD nC E q (upf σ c1 (cpyI (σ c0) (σ c1) N))) (pc + 3) lv rest) : GJ g K (WD nC E q σ) pc lv (.int (iZ (N : Int)) :: .int (iZ 0) :: .ref (q c1) :: .int (iZ 0) :: .ref (q c0) :: rest) := by
  obtain ⟨p, e, R, s, m, args, below, meth, c, A, Q, nL⟩ := K
  obtain ⟨hx, hb, hml, hown, hts, hK, hlk, hA, hfr, hlo, hN, hn⟩ := C
  intro H locs ls hP hD hS hl
  subst hfr; subst hlo
  have hI : I32 (N : Int) := by unfold I32; omega
  have e0 : (iZ (N : Int)).toNatClampNeg = N := by
    show (iZ (N : Int)).toInt.toNat = N
    rw [iZ_toInt hI]; omega
  have z0 : (iZ 0).toNatClampNeg = 0 := by decide +kernel
  refine va_copyi hx hb (hml.trans hl.1.symm) hown (hts _ h1) (hts _ wna_arraycopy) (hts _ wst_arraycopy) (hts _ win_System) hK hP hD hS c0 c1 0 0 ((WD_get hc).trans (by rw [hE])) ((WD_get hc1).trans (by rw [hE1])) rfl rfl rfl (by decide +kernel) (by decide +kernel) (fun h => ?_) (by rw [z0, e0]; omega) (by rw [z0, e0]; omega) (fun i _ => rfl) hfr9 hlo9 hd ?_
  · have := (iZ_lt (b := 0) hI I32_0).mp h
    omega
  · intro H1 locs1 hP1 hD1 hS1
    rw [z0, e0] at hP1 hD1
    have e9 : (WD nC E q σ).set c1 (q c1, .inl (g.2.2.1, len1, .inl (va_cpy (fun j => iZ (σ c0 j)) (fun j => iZ (σ c1 j)) 0 0 N))) = WD nC E q (upf σ c1 (cpyI (σ c0) (σ c1) N)) := by
      rw [← WD_set, hE1]
      congr 6
      funext i
      simp only [va_cpy, cpyI]
      by_cases h : i < N
      · rw [if_pos h, if_pos ⟨Nat.zero_le _, by omega⟩, show 0 + (i - 0) = i by omega]
      · rw [if_neg h, if_neg (by omega)]
    rw [e9] at hP1 hD1
    exact k H1 locs1 ls hP1 hD1 hS1 hl
set_option maxHeartbeats 4000000 in
set_option maxRecDepth 20000 in
theorem c_X6_joints (g : Gx) {q : Nat → Nat} {σ : Nat → Nat → Int} {na : Int} (h_na : I32 na) : MC g yX6_joints cX6_joints 2 ((some .int)) 1 22 (WC g q σ) [.ref (q 0), .int (iZ na)] (fun u => WC g q u) (pI (fun z u => (¬ (2 ≤ na ∧ na ≤ 6) ∧ z = -1 ∧ u = σ) ∨ ((2 ≤ na ∧ na ≤ 6) ∧ z = 1 ∧ u = bgS σ 1 0 2 3 4 5 na.toNat))) := by
  refine MC_intro (own := RX6) rfl (by decide) (Nat.le_of_ble_eq_true rfl) (fun K C T => ?_)
  show GJ g K (WC g q σ) 0 [(0, .ref (q 0)), (1, .int (iZ na))] []
  refine g_iload_n 1 C rfl dX6_joints_0 rfl ?_
  refine g_iconst C dX6_joints_1 ?_
  refine g_icmp_lt 11 C h_na (by unfold I32 at *; omega) dX6_joints_2 (by decide) (fun h1 => ?_) (fun h1 => ?_)
  · refine g_iconst C dX6_joints_11 ?_
    refine g_iret (u := σ) C T dX6_joints_12 ?_
    exact ⟨_, rfl, Or.inl ⟨by omega, rfl, rfl⟩⟩
  · refine g_iload_n 1 C rfl dX6_joints_5 rfl ?_
    refine g_bipush C dX6_joints_6 (by decide) ?_
    refine g_icmp_le 13 C h_na (by unfold I32 at *; omega) dX6_joints_8 (by decide) (fun h2 => ?_) (fun h2 => ?_)
    · refine g_aload_n 0 C rfl dX6_joints_13 rfl ?_
      refine gf_X6_12 C dX6_joints_14 ?_
      refine g_iload_n 1 C rfl dX6_joints_17 rfl ?_
      refine g_callV C (c_X0_renew g (σ := σ) h_na) gv_X6_59 yd_X0_renew ⟨by decide, by decide⟩ 1 0 (WD_get (by decide)) rfl rfl (Nat.le_of_ble_eq_true rfl) dX6_joints_18 ?_
      intro u hu
      obtain rfl : u = bgS σ 1 0 2 3 4 5 na.toNat := by rcases hu with h | h; omega; exact h.2
      refine g_iconst C dX6_joints_21 ?_
      refine g_iret (u := (bgS σ 1 0 2 3 4 5 na.toNat)) C T dX6_joints_22 ?_
      exact ⟨_, rfl, Or.inr ⟨by omega, rfl, rfl⟩⟩
    · refine g_iconst C dX6_joints_11 ?_
      refine g_iret (u := σ) C T dX6_joints_12 ?_
      exact ⟨_, rfl, Or.inl ⟨by omega, rfl, rfl⟩⟩
set_option maxHeartbeats 4000000 in
set_option maxRecDepth 20000 in
theorem c_X6_at (g : Gx) {q : Nat → Nat} {σ : Nat → Nat → Int} {nn : Nat} (hn : σ 1 0 = (nn : Int)) (hn2 : 2 ≤ nn) (hn6 : nn ≤ 6) (hx : ∀ i, i ≤ nn → 0 ≤ σ 2 i ∧ σ 2 i ≤ 20) {ia va : Int} (h_ia : I32 ia) (h_va : I32 va) : MC g yX6_at cX6_at 4 ((some .int)) 0 0 (WC g q σ) [.ref (q 0), .int (iZ ia), .int (iZ va)] (fun u => WC g q u) (pI (fun z u => z = (atF nn (σ 2) ia va).1 ∧ u = upf σ 2 (atF nn (σ 2) ia va).2)) := by
  refine MC_intro (own := RX6) rfl (by decide) (Nat.le_of_ble_eq_true rfl) (fun K C T => ?_)
  show GJ g K (WC g q σ) 0 [(0, .ref (q 0)), (1, .int (iZ ia)), (2, .int (iZ va))] []
  refine g_iload_n 1 C rfl dX6_at_0 rfl ?_
  refine g_iconst C dX6_at_1 ?_
  refine g_icmp_lt 26 C h_ia (by unfold I32 at *; omega) dX6_at_2 (by decide) (fun h1 => ?_) (fun h1 => ?_)
  · refine g_iconst C dX6_at_26 ?_
    refine g_iret (u := σ) C T dX6_at_27 ?_
    refine ⟨_, rfl, ?_⟩
    unfold atF
    (repeat' split) <;> first | exact ⟨rfl, (upf_id σ 2).symm⟩ | exact ⟨rfl, rfl⟩ | (exfalso; omega)
  · refine g_iload_n 1 C rfl dX6_at_5 rfl ?_
    refine g_aload_n 0 C rfl dX6_at_6 rfl ?_
    refine gf_X6_12 C dX6_at_7 ?_
    refine gf_X6_64 C dX6_at_10 ?_
    rw [show σ 1 0 = (nn : Int) from hn]
    refine g_icmp_gt 26 C h_ia (by unfold I32 at *; omega) dX6_at_13 (by decide) (fun h2 => ?_) (fun h2 => ?_)
    · refine g_iconst C dX6_at_26 ?_
      refine g_iret (u := σ) C T dX6_at_27 ?_
      refine ⟨_, rfl, ?_⟩
      unfold atF
      (repeat' split) <;> first | exact ⟨rfl, (upf_id σ 2).symm⟩ | exact ⟨rfl, rfl⟩ | (exfalso; omega)
    · refine g_iload_n 2 C rfl dX6_at_16 rfl ?_
      refine g_if_lt 26 C h_va dX6_at_17 (by decide) (fun h3 => ?_) (fun h3 => ?_)
      · refine g_iconst C dX6_at_26 ?_
        refine g_iret (u := σ) C T dX6_at_27 ?_
        refine ⟨_, rfl, ?_⟩
        unfold atF
        (repeat' split) <;> first | exact ⟨rfl, (upf_id σ 2).symm⟩ | exact ⟨rfl, rfl⟩ | (exfalso; omega)
      · refine g_iload_n 2 C rfl dX6_at_20 rfl ?_
        refine g_bipush C dX6_at_21 (by decide) ?_
        refine g_icmp_le 28 C h_va (by unfold I32 at *; omega) dX6_at_23 (by decide) (fun h4 => ?_) (fun h4 => ?_)
        · refine g_iload_n 2 C rfl dX6_at_28 rfl ?_
          refine g_aload_n 0 C rfl dX6_at_29 rfl ?_
          refine gf_X6_12 C dX6_at_30 ?_
          refine gf_X6_68 C dX6_at_33 ?_
          refine g_iload_n 1 C rfl dX6_at_36 rfl ?_
          refine g_iconst C dX6_at_37 ?_
          refine g_isub C dX6_at_38 ?_
          refine g_iald C 2 ((ia - 1).toNat) (by decide) (fun _ => rfl) (by omega) (by omega) (by decide) dX6_at_39 ?_
          refine g_icmp_le 69 C h_va (by have h5 := hx (ia - 1).toNat (by omega); unfold I32; omega) dX6_at_40 (by decide) (fun h5 => ?_) (fun h5 => ?_)
          · refine g_bipush C dX6_at_69 (by decide) ?_
            refine g_iret (u := σ) C T dX6_at_71 ?_
            refine ⟨_, rfl, ?_⟩
            unfold atF
            (repeat' split) <;> first | exact ⟨rfl, (upf_id σ 2).symm⟩ | exact ⟨rfl, rfl⟩ | (exfalso; omega)
          · refine g_iload_n 1 C rfl dX6_at_43 rfl ?_
            refine g_aload_n 0 C rfl dX6_at_44 rfl ?_
            refine gf_X6_12 C dX6_at_45 ?_
            refine gf_X6_64 C dX6_at_48 ?_
            rw [show σ 1 0 = (nn : Int) from hn]
            refine g_icmp_ge 72 C h_ia (by unfold I32 at *; omega) dX6_at_51 (by decide) (fun h6 => ?_) (fun h6 => ?_)
            · refine g_aload_n 0 C rfl dX6_at_72 rfl ?_
              refine gf_X6_12 C dX6_at_73 ?_
              refine gf_X6_68 C dX6_at_76 ?_
              refine g_iload_n 1 C rfl dX6_at_79 rfl ?_
              refine g_iald C 2 ((ia).toNat) (by decide) (fun _ => rfl) (by omega) (by omega) (by decide) dX6_at_80 ?_
              refine g_iname (fun w7 ew7 => ?_)
              refine g_istore_n (lv' := [(0, .ref (q 0)), (1, .int (iZ ia)), (2, .int (iZ va)), (3, .int (iZ w7))]) [1, 2, 3, 0] C dX6_at_81 rfl (by decide) rfl ?_
              refine g_aload_n 0 C rfl dX6_at_82 rfl ?_
              refine gf_X6_12 C dX6_at_83 ?_
              refine gf_X6_68 C dX6_at_86 ?_
              refine g_iload_n 1 C rfl dX6_at_89 rfl ?_
              refine g_iload_n 2 C rfl dX6_at_90 rfl ?_
              refine g_iast C 2 ((ia).toNat) (by decide) (fun _ => rfl) (by omega) (by omega) (by decide) dX6_at_91 ?_
              refine g_iload_n 3 C rfl dX6_at_92 rfl ?_
              refine g_iret (u := (up σ 2 ((ia).toNat) va)) C T dX6_at_93 ?_
              refine ⟨_, rfl, ?_⟩
              subst ew7
              unfold atF
              (repeat' split) <;> first | exact ⟨rfl, (upf_id σ 2).symm⟩ | exact ⟨rfl, rfl⟩ | (exfalso; omega)
            · refine g_iload_n 2 C rfl dX6_at_54 rfl ?_
              refine g_aload_n 0 C rfl dX6_at_55 rfl ?_
              refine gf_X6_12 C dX6_at_56 ?_
              refine gf_X6_68 C dX6_at_59 ?_
              refine g_iload_n 1 C rfl dX6_at_62 rfl ?_
              refine g_iconst C dX6_at_63 ?_
              refine g_iadd C dX6_at_64 ?_
              refine g_iald C 2 ((ia + 1).toNat) (by decide) (fun _ => rfl) (by omega) (by omega) (by decide) dX6_at_65 ?_
              refine g_icmp_lt 72 C h_va (by have h5 := hx (ia + 1).toNat (by omega); unfold I32; omega) dX6_at_66 (by decide) (fun h8 => ?_) (fun h8 => ?_)
              · refine g_aload_n 0 C rfl dX6_at_72 rfl ?_
                refine gf_X6_12 C dX6_at_73 ?_
                refine gf_X6_68 C dX6_at_76 ?_
                refine g_iload_n 1 C rfl dX6_at_79 rfl ?_
                refine g_iald C 2 ((ia).toNat) (by decide) (fun _ => rfl) (by omega) (by omega) (by decide) dX6_at_80 ?_
                refine g_iname (fun w9 ew9 => ?_)
                refine g_istore_n (lv' := [(0, .ref (q 0)), (1, .int (iZ ia)), (2, .int (iZ va)), (3, .int (iZ w9))]) [1, 2, 3, 0] C dX6_at_81 rfl (by decide) rfl ?_
                refine g_aload_n 0 C rfl dX6_at_82 rfl ?_
                refine gf_X6_12 C dX6_at_83 ?_
                refine gf_X6_68 C dX6_at_86 ?_
                refine g_iload_n 1 C rfl dX6_at_89 rfl ?_
                refine g_iload_n 2 C rfl dX6_at_90 rfl ?_
                refine g_iast C 2 ((ia).toNat) (by decide) (fun _ => rfl) (by omega) (by omega) (by decide) dX6_at_91 ?_
                refine g_iload_n 3 C rfl dX6_at_92 rfl ?_
                refine g_iret (u := (up σ 2 ((ia).toNat) va)) C T dX6_at_93 ?_
                refine ⟨_, rfl, ?_⟩
                subst ew9
                unfold atF
                (repeat' split) <;> first | exact ⟨rfl, (upf_id σ 2).symm⟩ | exact ⟨rfl, rfl⟩ | (exfalso; omega)
              · refine g_bipush C dX6_at_69 (by decide) ?_
                refine g_iret (u := σ) C T dX6_at_71 ?_
                refine ⟨_, rfl, ?_⟩
                unfold atF
                (repeat' split) <;> first | exact ⟨rfl, (upf_id σ 2).symm⟩ | exact ⟨rfl, rfl⟩ | (exfalso; omega)
        · refine g_iconst C dX6_at_26 ?_
          refine g_iret (u := σ) C T dX6_at_27 ?_
          refine ⟨_, rfl, ?_⟩
          unfold atF
          (repeat' split) <;> first | exact ⟨rfl, (upf_id σ 2).symm⟩ | exact ⟨rfl, rfl⟩ | (exfalso; omega)
set_option maxHeartbeats 4000000 in
set_option maxRecDepth 20000 in
theorem c_X6_edges (g : Gx) {q : Nat → Nat} {σ : Nat → Nat → Int} {nn : Nat} (hn : σ 1 0 = (nn : Int)) (hn2 : 2 ≤ nn) (hn6 : nn ≤ 6) {ia la ua : Int} (h_ia : I32 ia) (h_la : I32 la) (h_ua : I32 ua) : MC g yX6_edges cX6_edges 4 ((some .int)) 2 41 (WC g q σ) [.ref (q 0), .int (iZ ia), .int (iZ la), .int (iZ ua)] (fun u => WC g q u) (pI (fun z u => z = (edF nn (σ 3) (σ 4) ia la ua).1 ∧ u = upf (upf σ 3 (edF nn (σ 3) (σ 4) ia la ua).2.1) 4 (edF nn (σ 3) (σ 4) ia la ua).2.2)) := by
  refine MC_intro (own := RX6) rfl (by decide) (Nat.le_of_ble_eq_true rfl) (fun K C T => ?_)
  show GJ g K (WC g q σ) 0 [(0, .ref (q 0)), (1, .int (iZ ia)), (2, .int (iZ la)), (3, .int (iZ ua))] []
  refine g_aload_n 0 C rfl dX6_edges_0 rfl ?_
  refine gf_X6_12 C dX6_edges_1 ?_
  refine g_iload_n 1 C rfl dX6_edges_4 rfl ?_
  refine g_callI C (c_X0_hasJoint g (σ := σ) hn hn2 hn6 h_ia) gv_X6_71 yd_X0_hasJoint ⟨by decide, by decide⟩ 1 0 (WD_get (by decide)) rfl rfl (Nat.le_of_ble_eq_true rfl) dX6_edges_5 ?_
  rintro _ _ rfl
  refine g_beq 19 C dX6_edges_8 (by decide) (fun h1 => ?_) (fun h1 => ?_)
  · refine g_iconst C dX6_edges_19 ?_
    refine g_iret (u := σ) C T dX6_edges_20 ?_
    refine ⟨_, rfl, ?_⟩
    unfold edF
    (repeat' split) <;> first | exact ⟨rfl, by rw [upf_id, upf_id]⟩ | exact ⟨rfl, rfl⟩ | (exfalso; omega)
  · refine g_iload_n 2 C rfl dX6_edges_11 rfl ?_
    refine g_iload_n 3 C rfl dX6_edges_12 rfl ?_
    refine g_callSI C (c_X6_areEdges g h_la h_ua) gs_X6_75 yd_X6_areEdges ⟨by decide, by decide⟩ rfl (Nat.le_of_ble_eq_true rfl) dX6_edges_13 ?_
    rintro _ rfl
    refine g_bne 21 C dX6_edges_16 (by decide) (fun h2 => ?_) (fun h2 => ?_)
    · refine g_aload_n 0 C rfl dX6_edges_21 rfl ?_
      refine gf_X6_12 C dX6_edges_22 ?_
      refine gf_X6_79 C dX6_edges_25 ?_
      refine g_iload_n 1 C rfl dX6_edges_28 rfl ?_
      refine g_iload_n 2 C rfl dX6_edges_29 rfl ?_
      refine g_iast C 3 ((ia).toNat) (by decide) (fun _ => rfl) (by omega) (by omega) (by decide) dX6_edges_30 ?_
      refine g_aload_n 0 C rfl dX6_edges_31 rfl ?_
      refine gf_X6_12 C dX6_edges_32 ?_
      refine gf_X6_82 C dX6_edges_35 ?_
      refine g_iload_n 1 C rfl dX6_edges_38 rfl ?_
      refine g_iload_n 3 C rfl dX6_edges_39 rfl ?_
      refine g_iast C 4 ((ia).toNat) (by decide) (fun _ => rfl) (by omega) (by omega) (by decide) dX6_edges_40 ?_
      refine g_iconst C dX6_edges_41 ?_
      refine g_iret (u := (up (up σ 3 ((ia).toNat) la) 4 ((ia).toNat) ua)) C T dX6_edges_42 ?_
      refine ⟨_, rfl, ?_⟩
      unfold edF
      (repeat' split) <;> first | exact ⟨rfl, by rw [upf_id, upf_id]⟩ | exact ⟨rfl, rfl⟩ | (exfalso; omega)
    · refine g_iconst C dX6_edges_19 ?_
      refine g_iret (u := σ) C T dX6_edges_20 ?_
      refine ⟨_, rfl, ?_⟩
      unfold edF
      (repeat' split) <;> first | exact ⟨rfl, by rw [upf_id, upf_id]⟩ | exact ⟨rfl, rfl⟩ | (exfalso; omega)
set_option maxHeartbeats 4000000 in
set_option maxRecDepth 20000 in
theorem c_X6_load (g : Gx) {q : Nat → Nat} {σ : Nat → Nat → Int} {nn : Nat} (hn : σ 1 0 = (nn : Int)) (hn2 : 2 ≤ nn) (hn6 : nn ≤ 6) {ia wa : Int} (h_ia : I32 ia) (h_wa : I32 wa) : MC g yX6_load cX6_load 4 ((some .int)) 1 21 (WC g q σ) [.ref (q 0), .int (iZ ia), .int (iZ wa)] (fun u => WC g q u) (pI (fun z u => z = (ldF nn (σ 5) ia wa).1 ∧ u = upf σ 5 (ldF nn (σ 5) ia wa).2)) := by
  refine MC_intro (own := RX6) rfl (by decide) (Nat.le_of_ble_eq_true rfl) (fun K C T => ?_)
  show GJ g K (WC g q σ) 0 [(0, .ref (q 0)), (1, .int (iZ ia)), (2, .int (iZ wa))] []
  refine g_aload_n 0 C rfl dX6_load_0 rfl ?_
  refine gf_X6_12 C dX6_load_1 ?_
  refine g_iload_n 1 C rfl dX6_load_4 rfl ?_
  refine g_callI C (c_X0_hasInnerJoint g (σ := σ) hn hn2 hn6 h_ia) gv_X6_85 yd_X0_hasInnerJoint ⟨by decide, by decide⟩ 1 0 (WD_get (by decide)) rfl rfl (Nat.le_of_ble_eq_true rfl) dX6_load_5 ?_
  rintro _ _ rfl
  refine g_beq 18 C dX6_load_8 (by decide) (fun h1 => ?_) (fun h1 => ?_)
  · refine g_iconst C dX6_load_18 ?_
    refine g_iret (u := σ) C T dX6_load_19 ?_
    refine ⟨_, rfl, ?_⟩
    unfold ldF
    (repeat' split) <;> first | exact ⟨rfl, (upf_id σ 5).symm⟩ | exact ⟨rfl, rfl⟩ | (exfalso; omega)
  · refine g_iload_n 2 C rfl dX6_load_11 rfl ?_
    refine g_callSI C (c_X6_isLoad g h_wa) gs_X6_88 yd_X6_isLoad ⟨by decide, by decide⟩ rfl (Nat.le_of_ble_eq_true rfl) dX6_load_12 ?_
    rintro _ rfl
    refine g_bne 20 C dX6_load_15 (by decide) (fun h2 => ?_) (fun h2 => ?_)
    · refine g_aload_n 0 C rfl dX6_load_20 rfl ?_
      refine gf_X6_12 C dX6_load_21 ?_
      refine gf_X6_91 C dX6_load_24 ?_
      refine g_iload_n 1 C rfl dX6_load_27 rfl ?_
      refine g_iald C 5 ((ia).toNat) (by decide) (fun _ => rfl) (by omega) (by omega) (by decide) dX6_load_28 ?_
      refine g_iname (fun w3 ew3 => ?_)
      refine g_istore_n (lv' := [(0, .ref (q 0)), (1, .int (iZ ia)), (2, .int (iZ wa)), (3, .int (iZ w3))]) [1, 2, 3, 0] C dX6_load_29 rfl (by decide) rfl ?_
      refine g_aload_n 0 C rfl dX6_load_30 rfl ?_
      refine gf_X6_12 C dX6_load_31 ?_
      refine gf_X6_91 C dX6_load_34 ?_
      refine g_iload_n 1 C rfl dX6_load_37 rfl ?_
      refine g_iload_n 2 C rfl dX6_load_38 rfl ?_
      refine g_iast C 5 ((ia).toNat) (by decide) (fun _ => rfl) (by omega) (by omega) (by decide) dX6_load_39 ?_
      refine g_iload_n 3 C rfl dX6_load_40 rfl ?_
      refine g_iret (u := (up σ 5 ((ia).toNat) wa)) C T dX6_load_41 ?_
      refine ⟨_, rfl, ?_⟩
      subst ew3
      unfold ldF
      (repeat' split) <;> first | exact ⟨rfl, (upf_id σ 5).symm⟩ | exact ⟨rfl, rfl⟩ | (exfalso; omega)
    · refine g_iconst C dX6_load_18 ?_
      refine g_iret (u := σ) C T dX6_load_19 ?_
      refine ⟨_, rfl, ?_⟩
      unfold ldF
      (repeat' split) <;> first | exact ⟨rfl, (upf_id σ 5).symm⟩ | exact ⟨rfl, rfl⟩ | (exfalso; omega)
set_option maxHeartbeats 4000000 in
set_option maxRecDepth 20000 in
theorem c_X6_spread (g : Gx) {q : Nat → Nat} {σ : Nat → Nat → Int} {nn : Nat} (hn : σ 1 0 = (nn : Int)) (hn2 : 2 ≤ nn) (hn6 : nn ≤ 6) (hx : ∀ i, i ≤ nn → 0 ≤ σ 2 i ∧ σ 2 i ≤ 20) {da : Int} (h_da : I32 da) : MC g yX6_spread cX6_spread 3 ((some .int)) 1 20 (WC g q σ) [.ref (q 0), .int (iZ da)] (fun u => WC g q u) (pI (fun z u => z = (spF nn (σ 2) da).1 ∧ u = upf σ 2 (spF nn (σ 2) da).2)) := by
  refine MC_intro (own := RX6) rfl (by decide) (Nat.le_of_ble_eq_true rfl) (fun K C T => ?_)
  show GJ g K (WC g q σ) 0 [(0, .ref (q 0)), (1, .int (iZ da))] []
  refine g_iload_n 1 C rfl dX6_spread_0 rfl ?_
  refine g_bipush C dX6_spread_1 (by decide) ?_
  refine g_icmp_lt 12 C h_da (by have h5 := hx nn (by omega); have h6 := hx (nn - 1) (by omega); (try simp only [show ((nn : Int) - 1).toNat = nn - 1 by omega]); unfold I32; omega) dX6_spread_3 (by decide) (fun h1 => ?_) (fun h1 => ?_)
  · refine g_iconst C dX6_spread_12 ?_
    refine g_iret (u := σ) C T dX6_spread_13 ?_
    refine ⟨_, rfl, ?_⟩
    have e7 : ((nn : Int) - 1).toNat = nn - 1 := by omega
    try simp only [e7] at *
    unfold spF
    (repeat' split) <;> first | exact ⟨rfl, (upf_id σ 2).symm⟩ | exact ⟨rfl, rfl⟩ | (exfalso; omega)
  · refine g_iload_n 1 C rfl dX6_spread_6 rfl ?_
    refine g_bipush C dX6_spread_7 (by decide) ?_
    refine g_icmp_le 14 C h_da (by have h5 := hx nn (by omega); have h6 := hx (nn - 1) (by omega); (try simp only [show ((nn : Int) - 1).toNat = nn - 1 by omega]); unfold I32; omega) dX6_spread_9 (by decide) (fun h2 => ?_) (fun h2 => ?_)
    · refine g_aload_n 0 C rfl dX6_spread_14 rfl ?_
      refine gf_X6_12 C dX6_spread_15 ?_
      refine g_callI C (c_X0_span g (σ := σ) hn hn2 hn6) gv_X6_161 yd_X0_span ⟨by decide, by decide⟩ 1 0 (WD_get (by decide)) rfl rfl (Nat.le_of_ble_eq_true rfl) dX6_spread_18 ?_
      rintro _ _ rfl
      refine g_iload_n 1 C rfl dX6_spread_21 rfl ?_
      refine g_iadd C dX6_spread_22 ?_
      refine g_iname (fun w3 ew3 => ?_)
      refine g_istore_n (lv' := [(0, .ref (q 0)), (1, .int (iZ da)), (2, .int (iZ w3))]) [1, 2, 0] C dX6_spread_23 rfl (by decide) rfl ?_
      refine g_iload_n 2 C rfl dX6_spread_24 rfl ?_
      refine g_aload_n 0 C rfl dX6_spread_25 rfl ?_
      refine gf_X6_12 C dX6_spread_26 ?_
      have e7 : ((nn : Int) - 1).toNat = nn - 1 := by omega
      refine gf_X6_68 C dX6_spread_29 ?_
      refine g_aload_n 0 C rfl dX6_spread_32 rfl ?_
      refine gf_X6_12 C dX6_spread_33 ?_
      refine gf_X6_64 C dX6_spread_36 ?_
      rw [show σ 1 0 = (nn : Int) from hn]
      refine g_iconst C dX6_spread_39 ?_
      refine g_isub C dX6_spread_40 ?_
      refine g_iald C 2 (nn - 1) (by decide) (fun _ => rfl) (by omega) (by omega) (by decide) dX6_spread_41 ?_
      refine g_icmp_le 51 C (by have h5 := hx nn (by omega); have h6 := hx (nn - 1) (by omega); (try simp only [show ((nn : Int) - 1).toNat = nn - 1 by omega]); unfold I32; omega) (by have h5 := hx nn (by omega); have h6 := hx (nn - 1) (by omega); (try simp only [show ((nn : Int) - 1).toNat = nn - 1 by omega]); unfold I32; omega) dX6_spread_42 (by decide) (fun h4 => ?_) (fun h4 => ?_)
      · refine g_bipush C dX6_spread_51 (by decide) ?_
        refine g_iret (u := σ) C T dX6_spread_53 ?_
        refine ⟨_, rfl, ?_⟩
        subst ew3
        have e7 : ((nn : Int) - 1).toNat = nn - 1 := by omega
        try simp only [e7] at *
        unfold spF
        (repeat' split) <;> first | exact ⟨rfl, (upf_id σ 2).symm⟩ | exact ⟨rfl, rfl⟩ | (exfalso; omega)
      · refine g_iload_n 2 C rfl dX6_spread_45 rfl ?_
        refine g_bipush C dX6_spread_46 (by decide) ?_
        refine g_icmp_le 54 C (by have h5 := hx nn (by omega); have h6 := hx (nn - 1) (by omega); (try simp only [show ((nn : Int) - 1).toNat = nn - 1 by omega]); unfold I32; omega) (by have h5 := hx nn (by omega); have h6 := hx (nn - 1) (by omega); (try simp only [show ((nn : Int) - 1).toNat = nn - 1 by omega]); unfold I32; omega) dX6_spread_48 (by decide) (fun h5 => ?_) (fun h5 => ?_)
        · refine g_aload_n 0 C rfl dX6_spread_54 rfl ?_
          refine gf_X6_12 C dX6_spread_55 ?_
          refine gf_X6_68 C dX6_spread_58 ?_
          refine g_aload_n 0 C rfl dX6_spread_61 rfl ?_
          refine gf_X6_12 C dX6_spread_62 ?_
          refine gf_X6_64 C dX6_spread_65 ?_
          rw [show σ 1 0 = (nn : Int) from hn]
          refine g_iload_n 2 C rfl dX6_spread_68 rfl ?_
          refine g_iast C 2 nn (by decide) (fun _ => rfl) (by omega) (by omega) (by decide) dX6_spread_69 ?_
          refine g_iconst C dX6_spread_70 ?_
          refine g_iret (u := (up σ 2 nn w3)) C T dX6_spread_71 ?_
          refine ⟨_, rfl, ?_⟩
          subst ew3
          have e7 : ((nn : Int) - 1).toNat = nn - 1 := by omega
          try simp only [e7] at *
          unfold spF
          (repeat' split) <;> first | exact ⟨rfl, (upf_id σ 2).symm⟩ | exact ⟨rfl, rfl⟩ | (exfalso; omega)
        · refine g_bipush C dX6_spread_51 (by decide) ?_
          refine g_iret (u := σ) C T dX6_spread_53 ?_
          refine ⟨_, rfl, ?_⟩
          subst ew3
          have e7 : ((nn : Int) - 1).toNat = nn - 1 := by omega
          try simp only [e7] at *
          unfold spF
          (repeat' split) <;> first | exact ⟨rfl, (upf_id σ 2).symm⟩ | exact ⟨rfl, rfl⟩ | (exfalso; omega)
    · refine g_iconst C dX6_spread_12 ?_
      refine g_iret (u := σ) C T dX6_spread_13 ?_
      refine ⟨_, rfl, ?_⟩
      have e7 : ((nn : Int) - 1).toNat = nn - 1 := by omega
      try simp only [e7] at *
      unfold spF
      (repeat' split) <;> first | exact ⟨rfl, (upf_id σ 2).symm⟩ | exact ⟨rfl, rfl⟩ | (exfalso; omega)
set_option maxHeartbeats 4000000 in
set_option maxRecDepth 20000 in
theorem c_X6_told (g : Gx) {q : Nat → Nat} {σ : Nat → Nat → Int} {nn : Nat} (hn : σ 1 0 = (nn : Int)) (hn2 : 2 ≤ nn) (hn6 : nn ≤ 6) {ia ka : Int} (h_ia : I32 ia) (h_ka : I32 ka) : MC g yX6_told cX6_told 3 ((some .int)) 2 46 (WC g q σ) [.ref (q 0), .int (iZ ia), .int (iZ ka)] (fun u => WC g q u) (pI (fun z u => (∀ c, c ≠ 6 → u c = σ c) ∧ z = tdF nn (σ 2) (σ 3) (σ 4) (σ 5) (mo (σ 2) (σ 5) nn) ia ka)) := by
  refine MC_intro (own := RX6) rfl (by decide) (Nat.le_of_ble_eq_true rfl) (fun K C T => ?_)
  show GJ g K (WC g q σ) 0 [(0, .ref (q 0)), (1, .int (iZ ia)), (2, .int (iZ ka))] []
  refine g_aload_n 0 C rfl dX6_told_0 rfl ?_
  refine gf_X6_12 C dX6_told_1 ?_
  refine g_iload_n 1 C rfl dX6_told_4 rfl ?_
  refine g_callI C (c_X0_hasJoint g (σ := σ) hn hn2 hn6 h_ia) gv_X6_71 yd_X0_hasJoint ⟨by decide, by decide⟩ 1 0 (WD_get (by decide)) rfl rfl (Nat.le_of_ble_eq_true rfl) dX6_told_5 ?_
  rintro _ _ rfl
  refine g_bne 14 C dX6_told_8 (by decide) (fun h1 => ?_) (fun h1 => ?_)
  · refine g_iload_n 2 C rfl dX6_told_14 rfl ?_
    rcases (show (ka < 0 ∨ 4 < ka) ∨ ka = 0 ∨ ka = 1 ∨ ka = 2 ∨ ka = 3 ∨ ka = 4 by omega) with h2 | h2 | h2 | h2 | h2 | h2
    · refine g_tsOut 112 C h_ka dX6_told_15 h2 (by decide) ?_
      refine g_ldc (-100001) C wk_X6_126 (by decide) dX6_told_112 ?_
      refine g_iret (u := σ) C T dX6_told_114 ?_
      refine ⟨_, rfl, (fun _ _ => rfl), ?_⟩
      unfold tdF
      (repeat' split) <;> first | rfl | (exfalso; omega)
    · refine g_tsIn 48 C h_ka dX6_told_15 (by omega) (by omega) (by rw [h2]; rfl) (by decide) ?_
      refine g_aload_n 0 C rfl dX6_told_48 rfl ?_
      refine gf_X6_12 C dX6_told_49 ?_
      refine gf_X6_68 C dX6_told_52 ?_
      refine g_iload_n 1 C rfl dX6_told_55 rfl ?_
      refine g_iald C 2 ((ia).toNat) (by decide) (fun _ => rfl) (by omega) (by omega) (by decide) dX6_told_56 ?_
      refine g_iret (u := σ) C T dX6_told_57 ?_
      refine ⟨_, rfl, (fun _ _ => rfl), ?_⟩
      unfold tdF
      (repeat' split) <;> first | rfl | (exfalso; omega)
    · refine g_tsIn 58 C h_ka dX6_told_15 (by omega) (by omega) (by rw [h2]; rfl) (by decide) ?_
      refine g_aload_n 0 C rfl dX6_told_58 rfl ?_
      refine gf_X6_12 C dX6_told_59 ?_
      refine gf_X6_79 C dX6_told_62 ?_
      refine g_iload_n 1 C rfl dX6_told_65 rfl ?_
      refine g_iald C 3 ((ia).toNat) (by decide) (fun _ => rfl) (by omega) (by omega) (by decide) dX6_told_66 ?_
      refine g_iret (u := σ) C T dX6_told_67 ?_
      refine ⟨_, rfl, (fun _ _ => rfl), ?_⟩
      unfold tdF
      (repeat' split) <;> first | rfl | (exfalso; omega)
    · refine g_tsIn 68 C h_ka dX6_told_15 (by omega) (by omega) (by rw [h2]; rfl) (by decide) ?_
      refine g_aload_n 0 C rfl dX6_told_68 rfl ?_
      refine gf_X6_12 C dX6_told_69 ?_
      refine gf_X6_82 C dX6_told_72 ?_
      refine g_iload_n 1 C rfl dX6_told_75 rfl ?_
      refine g_iald C 4 ((ia).toNat) (by decide) (fun _ => rfl) (by omega) (by omega) (by decide) dX6_told_76 ?_
      refine g_iret (u := σ) C T dX6_told_77 ?_
      refine ⟨_, rfl, (fun _ _ => rfl), ?_⟩
      unfold tdF
      (repeat' split) <;> first | rfl | (exfalso; omega)
    · refine g_tsIn 78 C h_ka dX6_told_15 (by omega) (by omega) (by rw [h2]; rfl) (by decide) ?_
      refine g_aload_n 0 C rfl dX6_told_78 rfl ?_
      refine gf_X6_12 C dX6_told_79 ?_
      refine gf_X6_91 C dX6_told_82 ?_
      refine g_iload_n 1 C rfl dX6_told_85 rfl ?_
      refine g_iald C 5 ((ia).toNat) (by decide) (fun _ => rfl) (by omega) (by omega) (by decide) dX6_told_86 ?_
      refine g_iret (u := σ) C T dX6_told_87 ?_
      refine ⟨_, rfl, (fun _ _ => rfl), ?_⟩
      unfold tdF
      (repeat' split) <;> first | rfl | (exfalso; omega)
    · refine g_tsIn 88 C h_ka dX6_told_15 (by omega) (by omega) (by rw [h2]; rfl) (by decide) ?_
      refine g_aload_n 0 C rfl dX6_told_88 rfl ?_
      refine gf_X6_12 C dX6_told_89 ?_
      refine g_aload_n 0 C rfl dX6_told_92 rfl ?_
      refine gf_X6_12 C dX6_told_93 ?_
      refine gf_X6_91 C dX6_told_96 ?_
      refine g_callV C (c_X0_weigh g (σ := σ) hn hn2 hn6 (lc := 5) (Or.inl rfl)) gv_X6_127 yd_X0_weigh ⟨by decide, by decide⟩ 1 0 (WD_get (by decide)) rfl rfl (Nat.le_of_ble_eq_true rfl) dX6_told_99 ?_
      intro u hw
      refine g_aload_n 0 C rfl dX6_told_102 rfl ?_
      refine gf_X6_12 C dX6_told_103 ?_
      refine gf_X6_131 C dX6_told_106 ?_
      refine g_iload_n 1 C rfl dX6_told_109 rfl ?_
      refine g_iald C 6 ((ia).toNat) (by decide) (fun _ => rfl) (by omega) (by omega) (by decide) dX6_told_110 ?_
      rw [show u 6 ((ia).toNat) = mo (σ 2) (σ 5) nn ia.toNat from hw.2 _ (by omega)]
      refine g_iret (u := u) C T dX6_told_111 ?_
      refine ⟨_, rfl, hw.1, ?_⟩
      unfold tdF
      (repeat' split) <;> first | rfl | (exfalso; omega)
  · refine g_ldc (-100001) C wk_X6_126 (by decide) dX6_told_11 ?_
    refine g_iret (u := σ) C T dX6_told_13 ?_
    refine ⟨_, rfl, (fun _ _ => rfl), ?_⟩
    unfold tdF
    (repeat' split) <;> first | rfl | (exfalso; omega)
