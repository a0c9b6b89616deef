/-! the constructors -/
theorem nw_0 : Cond.methodLinkNest RX6 11 yX0_init "StandingArch" ∈ nwL := List.mem_of_getElem? (i := 0) rfl
theorem nw_1 : Cond.methodLinkNest RX6 51 yX2_init "StandingArch" ∈ nwL := List.mem_of_getElem? (i := 1) rfl
theorem nw_2 : Cond.methodLinkNest RX6 63 yX4_init "StandingArch" ∈ nwL := List.mem_of_getElem? (i := 2) rfl
theorem updL_0 : vp_updL (fun _ => lZ 0) 0 (lZ 1) = fun j => lZ (if j = 0 then 1 else 0) := by
  funext j
  unfold vp_updL
  split <;> rfl
theorem n_last {g : Gx} {K : Kx} {cs sl : Nat} {cc : ByteArray} {own : String} {n fr lo : Nat} {ws ws' : va_W} {pc : Nat} {lv : List (Nat × Value)} {rest : List Value} {a N : Nat} {f : Nat → Int64} {z x : Int} (C : CX g K cc own n fr lo) (q0 j : Nat) (ha : ws[q0]? = some (a, .inl (g.2.2.2.1, N, .inr (.inl f)))) (hz : z = (j : Int)) (hj : j < N) (hN9 : N ≤ 1000) (hset : ws.set q0 (a, .inl (g.2.2.2.1, N, .inr (.inl (vp_updL f j (lZ x))))) = ws') (hd : decode cc pc = .ok (.lastore, 1)) (kk : GN g K cs sl ws' (pc + 1) lv rest) : GN g K cs sl ws pc lv (.long (lZ x) :: .int (iZ z) :: .ref a :: rest) := by
  obtain ⟨p, e, R, s, m, args, below, meth, c, A, Q, nL⟩ := K
  obtain ⟨hx, hb, hml, hown, hts, hK, hlk, hA, hfr, hlo, hN, hn⟩ := C
  intro H locs ls hP hD hS hl
  obtain ⟨h1, h2⟩ := iZ_in hz hj hN9
  refine va_last hx hb hK hP hD hS q0 1 ha rfl h1 hd ?_
  rw [h2, hset]
  intro H1 locs1 hP1 hD1 hS1
  exact kk H1 locs1 ls hP1 hD1 hS1 hl
theorem n_astq {g : Gx} {K : Kx} {cs sl : Nat} {cc : ByteArray} {own : String} {n fr lo : Nat} {ws ws' : va_W} {pc : Nat} {lv : List (Nat × Value)} {rest : List Value} {a v N : Nat} {f : Nat → Option Nat} {vs : List Value} {z : Int} (C : CX g K cc own n fr lo) (q0 qk ci : Nat) (ha : ws[q0]? = some (a, .inl (g.2.2.2.2, N, .inr (.inr (.inr (.inr f)))))) (hv : ws[qk]? = some (v, .inr (ci, vs))) (hc : vwCl[ci]? = some (RX4, TX4, 4)) (h8 : True) (j : Nat) (hz : z = (j : Int)) (hj : j < N) (hN9 : N ≤ 1000) (hset : ws.set q0 (a, .inl (g.2.2.2.2, N, .inr (.inr (.inr (.inr (va_up f j (some v))))))) = ws') (hd : decode cc pc = .ok (.aastore, 1)) (kk : GN g K cs sl ws' (pc + 1) lv rest) : GN g K cs sl ws pc lv (.ref v :: .int (iZ z) :: .ref a :: rest) := by
  obtain ⟨p, e, R, s, m, args, below, meth, c, A, Q, nL⟩ := K
  obtain ⟨hx, hb, hml, hown, hts, hK, hlk, hA, hfr, hlo, hN, hn⟩ := C
  intro H locs ls hP hD hS hl
  obtain ⟨h1, h2⟩ := iZ_in hz hj hN9
  refine va_astq (r := (RX4, TX4, 4)) hx hb hK hP hD hS q0 2 qk ci ha rfl hv hc h1 hd ?_
  rw [h2, hset]
  intro H1 locs1 hP1 hD1 hS1
  exact kk H1 locs1 ls hP1 hD1 hS1 hl
theorem n_cell {g : Gx} {K : Kx} {cs sl : Nat} {ws ws' : va_W} {pc : Nat} {lv : List (Nat × Value)} {st : List Value} (k0 : Nat) {a N : Nat} {f f' : Nat → Option Nat} (ha : ws[k0]? = some (a, .inl (g.2.2.2.2, N, .inr (.inr (.inr (.inr f)))))) (hf : ∀ j, j < N → f j = f' j) (hset : ws.set k0 (a, .inl (g.2.2.2.2, N, .inr (.inr (.inr (.inr f'))))) = ws') (k : GN g K cs sl ws' pc lv st) : GN g K cs sl ws pc lv st := by
  obtain ⟨p, e, R, s, m, args, below, meth, c, A, Q, nL⟩ := K
  intro H locs ls hP hD hS hl
  subst hset
  refine k H locs ls (fun i q hq => ?_) (hD.set ha) hS hl
  by_cases hi : k0 = i
  · subst hi
    rw [List.getElem?_set_self (List.getElem?_eq_some_iff.mp ha).1] at hq
    cases hq
    have h1 : H[a]? = some (vp_cell g.2.2.2.2 (N, .inr (.inr (.inr (.inr f))))) := hP k0 _ ha
    show H[a]? = some (vp_cell g.2.2.2.2 (N, .inr (.inr (.inr (.inr f')))))
    rw [h1]
    congr 1
    rw [vp_cell_q, vp_cell_q]
    unfold arrV
    congr 2
    funext j
    show va_rf (f j.val) = va_rf (f' j.val)
    rw [hf j.val j.isLt]
  · rw [List.getElem?_set_ne hi] at hq
    exact hP i q hq
set_option maxHeartbeats 4000000 in
set_option maxRecDepth 20000 in
theorem c_X0_init (g : Gx) (h : Nat) : MN g yX0_init cX0_init 1 1 20 5 35 [(h, .inr (0, [.int (iZ 0), .null, .null, .null, .null, .null]))] [.ref h] (fun u : Nat × Nat × Nat × Nat × Nat => [(h, .inr (0, [.int (iZ 0), .ref (u.1), .ref (u.2.1), .ref (u.2.2.1), .ref (u.2.2.2.1), .ref (u.2.2.2.2)])), ((u.1), .inl (g.2.2.1, 7, .inl (fun _ => iZ 0))), ((u.2.1), .inl (g.2.2.1, 7, .inl (fun _ => iZ 0))), ((u.2.2.1), .inl (g.2.2.1, 7, .inl (fun _ => iZ 0))), ((u.2.2.2.1), .inl (g.2.2.1, 7, .inl (fun _ => iZ 0))), ((u.2.2.2.2), .inl (g.2.2.1, 7, .inl (fun _ => iZ 0)))]) (fun _ => True) := by
  refine MN_intro (own := RX0) rfl rfl (by decide) (Nat.le_of_ble_eq_true rfl) (fun K C hR hI T => ?_)
  show GN g K 0 0 [(h, .inr (0, [.int (iZ 0), .null, .null, .null, .null, .null]))] 0 [(0, .ref h)] []
  refine n_aload_n 0 C rfl dX0_init_0 rfl ?_
  refine n_objInit C wm_X0_3 (by decide) (Nat.le_of_ble_eq_true rfl) dX0_init_1 ?_
  refine n_aload_n 0 C rfl dX0_init_4 rfl ?_
  refine n_bipush C dX0_init_5 (by decide) ?_
  refine n_newi 7 C hR rfl (by decide) (by decide) (by decide) dX0_init_7 (fun b1 => ?_)
  show GN g K 1 7 [(h, .inr (0, [.int (iZ 0), .null, .null, .null, .null, .null])), (b1, .inl (g.2.2.1, 7, .inl (fun _ => iZ 0)))] 9 [(0, .ref h)] [.ref b1, .ref h]
  refine n_putF (ws' := [(h, .inr (0, [.int (iZ 0), .ref b1, .null, .null, .null, .null])), (b1, .inl (g.2.2.1, 7, .inl (fun _ => iZ 0)))]) C hI 0 0 1 tyX0 rfl rfl (by decide) inlX0 tyX0_ok nmX0 wf_X0_9 rfl rfl rfl rfl (Nat.le_of_ble_eq_true rfl) rfl dX0_init_9 ?_
  refine n_aload_n 0 C rfl dX0_init_12 rfl ?_
  refine n_bipush C dX0_init_13 (by decide) ?_
  refine n_newi 7 C hR rfl (by decide) (by decide) (by decide) dX0_init_15 (fun b2 => ?_)
  show GN g K 2 14 [(h, .inr (0, [.int (iZ 0), .ref b1, .null, .null, .null, .null])), (b1, .inl (g.2.2.1, 7, .inl (fun _ => iZ 0))), (b2, .inl (g.2.2.1, 7, .inl (fun _ => iZ 0)))] 17 [(0, .ref h)] [.ref b2, .ref h]
  refine n_putF (ws' := [(h, .inr (0, [.int (iZ 0), .ref b1, .ref b2, .null, .null, .null])), (b1, .inl (g.2.2.1, 7, .inl (fun _ => iZ 0))), (b2, .inl (g.2.2.1, 7, .inl (fun _ => iZ 0)))]) C hI 0 0 2 tyX0 rfl rfl (by decide) inlX0 tyX0_ok nmX0 wf_X0_15 rfl rfl rfl rfl (Nat.le_of_ble_eq_true rfl) rfl dX0_init_17 ?_
  refine n_aload_n 0 C rfl dX0_init_20 rfl ?_
  refine n_bipush C dX0_init_21 (by decide) ?_
  refine n_newi 7 C hR rfl (by decide) (by decide) (by decide) dX0_init_23 (fun b3 => ?_)
  show GN g K 3 21 [(h, .inr (0, [.int (iZ 0), .ref b1, .ref b2, .null, .null, .null])), (b1, .inl (g.2.2.1, 7, .inl (fun _ => iZ 0))), (b2, .inl (g.2.2.1, 7, .inl (fun _ => iZ 0))), (b3, .inl (g.2.2.1, 7, .inl (fun _ => iZ 0)))] 25 [(0, .ref h)] [.ref b3, .ref h]
  refine n_putF (ws' := [(h, .inr (0, [.int (iZ 0), .ref b1, .ref b2, .ref b3, .null, .null])), (b1, .inl (g.2.2.1, 7, .inl (fun _ => iZ 0))), (b2, .inl (g.2.2.1, 7, .inl (fun _ => iZ 0))), (b3, .inl (g.2.2.1, 7, .inl (fun _ => iZ 0)))]) C hI 0 0 3 tyX0 rfl rfl (by decide) inlX0 tyX0_ok nmX0 wf_X0_18 rfl rfl rfl rfl (Nat.le_of_ble_eq_true rfl) rfl dX0_init_25 ?_
  refine n_aload_n 0 C rfl dX0_init_28 rfl ?_
  refine n_bipush C dX0_init_29 (by decide) ?_
  refine n_newi 7 C hR rfl (by decide) (by decide) (by decide) dX0_init_31 (fun b4 => ?_)
  show GN g K 4 28 [(h, .inr (0, [.int (iZ 0), .ref b1, .ref b2, .ref b3, .null, .null])), (b1, .inl (g.2.2.1, 7, .inl (fun _ => iZ 0))), (b2, .inl (g.2.2.1, 7, .inl (fun _ => iZ 0))), (b3, .inl (g.2.2.1, 7, .inl (fun _ => iZ 0))), (b4, .inl (g.2.2.1, 7, .inl (fun _ => iZ 0)))] 33 [(0, .ref h)] [.ref b4, .ref h]
  refine n_putF (ws' := [(h, .inr (0, [.int (iZ 0), .ref b1, .ref b2, .ref b3, .ref b4, .null])), (b1, .inl (g.2.2.1, 7, .inl (fun _ => iZ 0))), (b2, .inl (g.2.2.1, 7, .inl (fun _ => iZ 0))), (b3, .inl (g.2.2.1, 7, .inl (fun _ => iZ 0))), (b4, .inl (g.2.2.1, 7, .inl (fun _ => iZ 0)))]) C hI 0 0 4 tyX0 rfl rfl (by decide) inlX0 tyX0_ok nmX0 wf_X0_21 rfl rfl rfl rfl (Nat.le_of_ble_eq_true rfl) rfl dX0_init_33 ?_
  refine n_aload_n 0 C rfl dX0_init_36 rfl ?_
  refine n_bipush C dX0_init_37 (by decide) ?_
  refine n_newi 7 C hR rfl (by decide) (by decide) (by decide) dX0_init_39 (fun b5 => ?_)
  show GN g K 5 35 [(h, .inr (0, [.int (iZ 0), .ref b1, .ref b2, .ref b3, .ref b4, .null])), (b1, .inl (g.2.2.1, 7, .inl (fun _ => iZ 0))), (b2, .inl (g.2.2.1, 7, .inl (fun _ => iZ 0))), (b3, .inl (g.2.2.1, 7, .inl (fun _ => iZ 0))), (b4, .inl (g.2.2.1, 7, .inl (fun _ => iZ 0))), (b5, .inl (g.2.2.1, 7, .inl (fun _ => iZ 0)))] 41 [(0, .ref h)] [.ref b5, .ref h]
  refine n_putF (ws' := [(h, .inr (0, [.int (iZ 0), .ref b1, .ref b2, .ref b3, .ref b4, .ref b5])), (b1, .inl (g.2.2.1, 7, .inl (fun _ => iZ 0))), (b2, .inl (g.2.2.1, 7, .inl (fun _ => iZ 0))), (b3, .inl (g.2.2.1, 7, .inl (fun _ => iZ 0))), (b4, .inl (g.2.2.1, 7, .inl (fun _ => iZ 0))), (b5, .inl (g.2.2.1, 7, .inl (fun _ => iZ 0)))]) C hI 0 0 5 tyX0 rfl rfl (by decide) inlX0 tyX0_ok nmX0 wf_X0_24 rfl rfl rfl rfl (Nat.le_of_ble_eq_true rfl) rfl dX0_init_41 ?_
  exact n_vret (b1, b2, b3, b4, b5) C T dX0_init_44 trivial
set_option maxHeartbeats 4000000 in
set_option maxRecDepth 20000 in
theorem c_X1_init (g : Gx) (h : Nat) (a1 : Nat) : MN g yX1_init cX1_init 2 1 20 1 4 [(h, .inr (1, [.null, .int (iZ 0), .null]))] [.ref h, .ref a1] (fun u : Nat => [(h, .inr (1, [.ref a1, .int (iZ 0), .ref u])), (u, .inl (g.2.2.1, 4, .inl (fun _ => iZ 0)))]) (fun _ => True) := by
  refine MN_intro (own := RX1) rfl rfl (by decide) (Nat.le_of_ble_eq_true rfl) (fun K C hR hI T => ?_)
  show GN g K 0 0 [(h, .inr (1, [.null, .int (iZ 0), .null]))] 0 [(0, .ref h), (1, .ref a1)] []
  refine n_aload_n 0 C rfl dX1_init_0 rfl ?_
  refine n_objInit C wm_X1_3 (by decide) (Nat.le_of_ble_eq_true rfl) dX1_init_1 ?_
  refine n_aload_n 0 C rfl dX1_init_4 rfl ?_
  refine n_iconst C dX1_init_5 ?_
  refine n_newi 4 C hR rfl (by decide) (by decide) (by decide) dX1_init_6 (fun b1 => ?_)
  show GN g K 1 4 [(h, .inr (1, [.null, .int (iZ 0), .null])), (b1, .inl (g.2.2.1, 4, .inl (fun _ => iZ 0)))] 8 [(0, .ref h), (1, .ref a1)] [.ref b1, .ref h]
  refine n_putF (ws' := [(h, .inr (1, [.null, .int (iZ 0), .ref b1])), (b1, .inl (g.2.2.1, 4, .inl (fun _ => iZ 0)))]) C hI 0 1 2 tyX1 rfl rfl (by decide) inlX1 tyX1_ok nmX1 wf_X1_9 rfl rfl rfl rfl (Nat.le_of_ble_eq_true rfl) rfl dX1_init_8 ?_
  refine n_aload_n 0 C rfl dX1_init_11 rfl ?_
  refine n_aload_n 1 C rfl dX1_init_12 rfl ?_
  refine n_putF (ws' := [(h, .inr (1, [.ref a1, .int (iZ 0), .ref b1])), (b1, .inl (g.2.2.1, 4, .inl (fun _ => iZ 0)))]) C hI 0 1 0 tyX1 rfl rfl (by decide) inlX1 tyX1_ok nmX1 wf_X1_15 rfl rfl rfl rfl (Nat.le_of_ble_eq_true rfl) rfl dX1_init_13 ?_
  exact n_vret b1 C T dX1_init_16 trivial
set_option maxHeartbeats 4000000 in
set_option maxRecDepth 20000 in
theorem c_X2_init (g : Gx) (h : Nat) : MN g yX2_init cX2_init 1 1 20 0 0 [(h, .inr (2, [.long (lZ 0), .long (lZ 0)]))] [.ref h] (fun u : Unit => [(h, .inr (2, [.long (lZ 0), .long (lZ 1)]))]) (fun _ => True) := by
  refine MN_intro (own := RX2) rfl rfl (by decide) (Nat.le_of_ble_eq_true rfl) (fun K C hR hI T => ?_)
  show GN g K 0 0 [(h, .inr (2, [.long (lZ 0), .long (lZ 0)]))] 0 [(0, .ref h)] []
  refine n_aload_n 0 C rfl dX2_init_0 rfl ?_
  refine n_objInit C wm_X2_1 (by decide) (Nat.le_of_ble_eq_true rfl) dX2_init_1 ?_
  refine n_aload_n 0 C rfl dX2_init_4 rfl ?_
  refine n_lconst 0 C dX2_init_5 rfl ?_
  refine n_put (ws' := [(h, .inr (2, [.long (lZ 0), .long (lZ 0)]))]) C 0 2 0 tyX2 rfl rfl (by decide) inlX2 tyX2_ok nmX2 wf_X2_7 rfl rfl rfl (Nat.le_of_ble_eq_true rfl) rfl dX2_init_6 ?_
  refine n_aload_n 0 C rfl dX2_init_9 rfl ?_
  refine n_lconst 1 C dX2_init_10 rfl ?_
  refine n_put (ws' := [(h, .inr (2, [.long (lZ 0), .long (lZ 1)]))]) C 0 2 1 tyX2 rfl rfl (by decide) inlX2 tyX2_ok nmX2 wf_X2_13 rfl rfl rfl (Nat.le_of_ble_eq_true rfl) rfl dX2_init_11 ?_
  exact n_vret () C T dX2_init_14 trivial
set_option maxHeartbeats 4000000 in
set_option maxRecDepth 20000 in
theorem c_X3_init (g : Gx) (h : Nat) (a1 : Nat) : MN g yX3_init cX3_init 2 1 20 0 0 [(h, .inr (3, [.null, .long (lZ 0), .long (lZ 0), .long (lZ 0), .long (lZ 0), .long (lZ 0), .long (lZ 0)]))] [.ref h, .ref a1] (fun u : Unit => [(h, .inr (3, [.ref a1, .long (lZ 0), .long (lZ 1), .long (lZ 0), .long (lZ 1), .long (lZ 0), .long (lZ 1)]))]) (fun _ => True) := by
  refine MN_intro (own := RX3) rfl rfl (by decide) (Nat.le_of_ble_eq_true rfl) (fun K C hR hI T => ?_)
  show GN g K 0 0 [(h, .inr (3, [.null, .long (lZ 0), .long (lZ 0), .long (lZ 0), .long (lZ 0), .long (lZ 0), .long (lZ 0)]))] 0 [(0, .ref h), (1, .ref a1)] []
  refine n_aload_n 0 C rfl dX3_init_0 rfl ?_
  refine n_objInit C wm_X3_1 (by decide) (Nat.le_of_ble_eq_true rfl) dX3_init_1 ?_
  refine n_aload_n 0 C rfl dX3_init_4 rfl ?_
  refine n_lconst 1 C dX3_init_5 rfl ?_
  refine n_put (ws' := [(h, .inr (3, [.null, .long (lZ 0), .long (lZ 1), .long (lZ 0), .long (lZ 0), .long (lZ 0), .long (lZ 0)]))]) C 0 3 2 tyX3 rfl rfl (by decide) inlX3 tyX3_ok nmX3 wf_X3_7 rfl rfl rfl (Nat.le_of_ble_eq_true rfl) rfl dX3_init_6 ?_
  refine n_aload_n 0 C rfl dX3_init_9 rfl ?_
  refine n_lconst 1 C dX3_init_10 rfl ?_
  refine n_put (ws' := [(h, .inr (3, [.null, .long (lZ 0), .long (lZ 1), .long (lZ 0), .long (lZ 1), .long (lZ 0), .long (lZ 0)]))]) C 0 3 4 tyX3 rfl rfl (by decide) inlX3 tyX3_ok nmX3 wf_X3_13 rfl rfl rfl (Nat.le_of_ble_eq_true rfl) rfl dX3_init_11 ?_
  refine n_aload_n 0 C rfl dX3_init_14 rfl ?_
  refine n_lconst 1 C dX3_init_15 rfl ?_
  refine n_put (ws' := [(h, .inr (3, [.null, .long (lZ 0), .long (lZ 1), .long (lZ 0), .long (lZ 1), .long (lZ 0), .long (lZ 1)]))]) C 0 3 6 tyX3 rfl rfl (by decide) inlX3 tyX3_ok nmX3 wf_X3_16 rfl rfl rfl (Nat.le_of_ble_eq_true rfl) rfl dX3_init_16 ?_
  refine n_aload_n 0 C rfl dX3_init_19 rfl ?_
  refine n_aload_n 1 C rfl dX3_init_20 rfl ?_
  refine n_putF (ws' := [(h, .inr (3, [.ref a1, .long (lZ 0), .long (lZ 1), .long (lZ 0), .long (lZ 1), .long (lZ 0), .long (lZ 1)]))]) C hI 0 3 0 tyX3 rfl rfl (by decide) inlX3 tyX3_ok nmX3 wf_X3_19 rfl rfl rfl rfl (Nat.le_of_ble_eq_true rfl) rfl dX3_init_21 ?_
  exact n_vret () C T dX3_init_24 trivial
set_option maxHeartbeats 4000000 in
set_option maxRecDepth 20000 in
theorem c_X4_init (g : Gx) (h : Nat) : MN g yX4_init cX4_init 1 1 20 1 28 [(h, .inr (4, [.int (iZ 0), .int (iZ 0), .int (iZ 0), .null]))] [.ref h] (fun u : Nat => [(h, .inr (4, [.int (iZ 0), .int (iZ 0), .int (iZ 0), .ref u])), (u, .inl (g.2.2.1, 28, .inl (fun _ => iZ 0)))]) (fun _ => True) := by
  refine MN_intro (own := RX4) rfl rfl (by decide) (Nat.le_of_ble_eq_true rfl) (fun K C hR hI T => ?_)
  show GN g K 0 0 [(h, .inr (4, [.int (iZ 0), .int (iZ 0), .int (iZ 0), .null]))] 0 [(0, .ref h)] []
  refine n_aload_n 0 C rfl dX4_init_0 rfl ?_
  refine n_objInit C wm_X4_3 (by decide) (Nat.le_of_ble_eq_true rfl) dX4_init_1 ?_
  refine n_aload_n 0 C rfl dX4_init_4 rfl ?_
  refine n_bipush C dX4_init_5 (by decide) ?_
  refine n_newi 28 C hR rfl (by decide) (by decide) (by decide) dX4_init_7 (fun b1 => ?_)
  show GN g K 1 28 [(h, .inr (4, [.int (iZ 0), .int (iZ 0), .int (iZ 0), .null])), (b1, .inl (g.2.2.1, 28, .inl (fun _ => iZ 0)))] 9 [(0, .ref h)] [.ref b1, .ref h]
  refine n_putF (ws' := [(h, .inr (4, [.int (iZ 0), .int (iZ 0), .int (iZ 0), .ref b1])), (b1, .inl (g.2.2.1, 28, .inl (fun _ => iZ 0)))]) C hI 0 4 3 tyX4 rfl rfl (by decide) inlX4 tyX4_ok nmX4 wf_X4_9 rfl rfl rfl rfl (Nat.le_of_ble_eq_true rfl) rfl dX4_init_9 ?_
  exact n_vret b1 C T dX4_init_12 trivial
set_option maxHeartbeats 4000000 in
set_option maxRecDepth 20000 in
theorem c_X5_init (g : Gx) (h : Nat) (a1 : Nat) : MN g yX5_init cX5_init 2 1 20 3 108 [(h, .inr (5, [.null, .int (iZ 0), .null, .null, .null]))] [.ref h, .ref a1] (fun u : Nat × Nat × Nat => [(h, .inr (5, [.ref a1, .int (iZ 0), .ref (u.1), .ref (u.2.1), .ref (u.2.2)])), ((u.1), .inl (g.2.2.2.1, 36, .inr (.inl (fun _ => lZ 0)))), ((u.2.1), .inl (g.2.2.2.1, 36, .inr (.inl (fun _ => lZ 0)))), ((u.2.2), .inl (g.2.2.2.1, 36, .inr (.inl (fun j => lZ (if j = 0 then 1 else 0)))))]) (fun _ => True) := by
  refine MN_intro (own := RX5) rfl rfl (by decide) (Nat.le_of_ble_eq_true rfl) (fun K C hR hI T => ?_)
  show GN g K 0 0 [(h, .inr (5, [.null, .int (iZ 0), .null, .null, .null]))] 0 [(0, .ref h), (1, .ref a1)] []
  refine n_aload_n 0 C rfl dX5_init_0 rfl ?_
  refine n_objInit C wm_X5_1 (by decide) (Nat.le_of_ble_eq_true rfl) dX5_init_1 ?_
  refine n_aload_n 0 C rfl dX5_init_4 rfl ?_
  refine n_bipush C dX5_init_5 (by decide) ?_
  refine n_newl 36 C hR rfl (by decide) (by decide) (by decide) dX5_init_7 (fun b1 => ?_)
  show GN g K 1 36 [(h, .inr (5, [.null, .int (iZ 0), .null, .null, .null])), (b1, .inl (g.2.2.2.1, 36, .inr (.inl (fun _ => lZ 0))))] 9 [(0, .ref h), (1, .ref a1)] [.ref b1, .ref h]
  refine n_putF (ws' := [(h, .inr (5, [.null, .int (iZ 0), .ref b1, .null, .null])), (b1, .inl (g.2.2.2.1, 36, .inr (.inl (fun _ => lZ 0))))]) C hI 0 5 2 tyX5 rfl rfl (by decide) inlX5 tyX5_ok nmX5 wf_X5_9 rfl rfl rfl rfl (Nat.le_of_ble_eq_true rfl) rfl dX5_init_9 ?_
  refine n_aload_n 0 C rfl dX5_init_12 rfl ?_
  refine n_bipush C dX5_init_13 (by decide) ?_
  refine n_newl 36 C hR rfl (by decide) (by decide) (by decide) dX5_init_15 (fun b2 => ?_)
  show GN g K 2 72 [(h, .inr (5, [.null, .int (iZ 0), .ref b1, .null, .null])), (b1, .inl (g.2.2.2.1, 36, .inr (.inl (fun _ => lZ 0)))), (b2, .inl (g.2.2.2.1, 36, .inr (.inl (fun _ => lZ 0))))] 17 [(0, .ref h), (1, .ref a1)] [.ref b2, .ref h]
  refine n_putF (ws' := [(h, .inr (5, [.null, .int (iZ 0), .ref b1, .ref b2, .null])), (b1, .inl (g.2.2.2.1, 36, .inr (.inl (fun _ => lZ 0)))), (b2, .inl (g.2.2.2.1, 36, .inr (.inl (fun _ => lZ 0))))]) C hI 0 5 3 tyX5 rfl rfl (by decide) inlX5 tyX5_ok nmX5 wf_X5_13 rfl rfl rfl rfl (Nat.le_of_ble_eq_true rfl) rfl dX5_init_17 ?_
  refine n_aload_n 0 C rfl dX5_init_20 rfl ?_
  refine n_bipush C dX5_init_21 (by decide) ?_
  refine n_newl 36 C hR rfl (by decide) (by decide) (by decide) dX5_init_23 (fun b3 => ?_)
  show GN g K 3 108 [(h, .inr (5, [.null, .int (iZ 0), .ref b1, .ref b2, .null])), (b1, .inl (g.2.2.2.1, 36, .inr (.inl (fun _ => lZ 0)))), (b2, .inl (g.2.2.2.1, 36, .inr (.inl (fun _ => lZ 0)))), (b3, .inl (g.2.2.2.1, 36, .inr (.inl (fun _ => lZ 0))))] 25 [(0, .ref h), (1, .ref a1)] [.ref b3, .ref h]
  refine n_putF (ws' := [(h, .inr (5, [.null, .int (iZ 0), .ref b1, .ref b2, .ref b3])), (b1, .inl (g.2.2.2.1, 36, .inr (.inl (fun _ => lZ 0)))), (b2, .inl (g.2.2.2.1, 36, .inr (.inl (fun _ => lZ 0)))), (b3, .inl (g.2.2.2.1, 36, .inr (.inl (fun _ => lZ 0))))]) C hI 0 5 4 tyX5 rfl rfl (by decide) inlX5 tyX5_ok nmX5 wf_X5_16 rfl rfl rfl rfl (Nat.le_of_ble_eq_true rfl) rfl dX5_init_25 ?_
  refine n_aload_n 0 C rfl dX5_init_28 rfl ?_
  refine n_aload_n 1 C rfl dX5_init_29 rfl ?_
  refine n_putF (ws' := [(h, .inr (5, [.ref a1, .int (iZ 0), .ref b1, .ref b2, .ref b3])), (b1, .inl (g.2.2.2.1, 36, .inr (.inl (fun _ => lZ 0)))), (b2, .inl (g.2.2.2.1, 36, .inr (.inl (fun _ => lZ 0)))), (b3, .inl (g.2.2.2.1, 36, .inr (.inl (fun _ => lZ 0))))]) C hI 0 5 0 tyX5 rfl rfl (by decide) inlX5 tyX5_ok nmX5 wf_X5_19 rfl rfl rfl rfl (Nat.le_of_ble_eq_true rfl) rfl dX5_init_30 ?_
  refine n_aload_n 0 C rfl dX5_init_33 rfl ?_
  refine n_get (fs := [.ref a1, .int (iZ 0), .ref b1, .ref b2, .ref b3]) C 0 5 4 rfl rfl (by decide) inlX5 wf_X5_16 rfl dX5_init_34 ?_
  refine n_iconst C dX5_init_37 ?_
  refine n_lconst 1 C dX5_init_38 rfl ?_
  refine n_last (ws' := [(h, .inr (5, [.ref a1, .int (iZ 0), .ref b1, .ref b2, .ref b3])), (b1, .inl (g.2.2.2.1, 36, .inr (.inl (fun _ => lZ 0)))), (b2, .inl (g.2.2.2.1, 36, .inr (.inl (fun _ => lZ 0)))), (b3, .inl (g.2.2.2.1, 36, .inr (.inl (fun j => lZ (if j = 0 then 1 else 0)))))]) C 3 0 rfl rfl (by decide) (by decide) (by rw [updL_0]; rfl) dX5_init_39 ?_
  exact n_vret (b1, b2, b3) C T dX5_init_40 trivial
