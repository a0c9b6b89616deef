/-! THE CLAIM OUT OF ONE WALK OF THE LAW'S BODY. Your part is whole_start (and what it stands on); all else here is the same for every law, but numbers. -/
def R_law : String := "StandingArchLaw"
def lw_P (b : Addr) (xs : List Int32) (args : Array Value) (s : State) : Prop := args = #[.ref b] ∧ s.IntsAt b xs ∧ xs.length ≤ 2560 ∧ (Jvm.Cond.and given_1 narrow_1).before args s = true
def lw_Q (_ : Array Value) (s : State) (o : Outcome) (t : State) : Prop := o = .returned (some (.int 1)) ∧ Framed s o t [] 600000 7302250
def lw_Z (below : List Frame) (a : Array Value) (s : State) : State → Prop := fun t => ∃ o, t.status = .running ∧ Ended t below o ∧ lw_Q a s o t
/-- the law's own end, with 1 on the stack, nothing written that was there before, its room as the claim has it -/
theorem lw_ret {p : Program} {l : Launch} {e : Env} {s : State} {m : MethodId} {below : List Frame} {meth : Method} {c : Code} {b : Nat} (hx : p.tables.exec = Jvm.exec) (hb : c.code = code) (hr : meth.sig.returnType = ret) (hlocks : meth.locks = false) {pc : Nat} {H : Heap} {ls : Array Slot} (hdg : decode code pc = .ok (.ireturn, 1)) : W p l e room_1 s m #[Value.ref b] below meth c H [] 600000 7302250 (lw_Z below #[Value.ref b] s) (F0 m pc ls [.int 1]) := by
  intro T hT X
  obtain ⟨fs, hret, hrun, hended, hW, hframe⟩ := X.leave (v := some (.int 1)) (hlocks := hlocks) (fun h => by rw [hr] at h; cases h)
  have hmeth' : T.vm.method? m = some meth := X.method'
  refine ⟨T.setFrames fs, ?_, .returned (some (.int 1)), hrun, hended, rfl, ⟨_, rfl⟩, hW, hframe⟩
  jvm_step X.here [X.here.top, hx, hb, hdg, hmeth', hr, ret, narrow_b1]
  (try refine ⟨rfl, ?_⟩); (try refine ⟨rfl, ?_⟩)
  first | (intro acts; rw [hret _ acts rfl rfl rfl]) | rw [hret _ _ rfl rfl rfl]
  exact Steps.refl _
/-- what holds at the law's entry: the machine, the code, the tables' words (any of lw_tbl by 'hts w (by decide +kernel)'), the script of L ints xs at the cell b, what the Statement gives of the start (any of its parts by flat_of_before) -/
def lw_At (p : Program) (s : State) (m : MethodId) (meth : Method) (c : Code) (b L : Nat) (xs : Nat → Int32) : Prop :=
  p.tables.exec = Jvm.exec ∧ c.code = code ∧ meth.sig.returnType = ret ∧ c.maxLocals = 4 ∧ s.vm.findClass R_law = some m.cls ∧ (∀ w ∈ lw_tbl, w.before #[Value.ref b] s = true) ∧ va_X b L xs s s.heap ∧ b < s.heap.size ∧ meth.locks = false ∧ (Jvm.Cond.and given_1 narrow_1).before #[Value.ref b] s = true
def AOK (K : Kx) : Prop := match K with
  | (_, _, _, s, _, _, _, _, _, _, _, _) => va_AO "StandingArch$Sheet" s
theorem n_callIL {g : Gx} {K : Kx} {cs sl : Nat} {cc : ByteArray} {own : String} {n fr lo : Nat} {pc : Nat} {lv : List (Nat × Value)} {rest : List Value} (C : CX g K cc own n fr lo) {mc ms : Nat} (hR : RM K mc ms) (hao9 : AOK K) {S : Type} {y : MethodName} {cc' : ByteArray} {maxL' fr' lo' mc' ms' : Nat} {b idx : Nat} {as st : List Value} {wc wr : va_W} {Wf : S → va_W} {P : S → Prop}
    (M : MN g y cc' maxL' fr' lo' mc' ms' wc (.ref b :: as) Wf P) (hl9 : Cond.methodLink own idx y ∈ BIG) (hi9 : Cond.instanceMethod y ∈ BIG) (hcd : Cond.code y cc' maxL' none ∈ BIG) (hini : Cond.initialized y.cls ∈ BIG) (hnm : y.name = "<init>") (hd0 : y.cls ≠ "java/lang/invoke/MethodHandle" ∧ y.cls ≠ "java/lang/invoke/VarHandle" ∧ (parseMethodDescriptor y.desc).map (fun d => d.parameters.length) = some as.length) (hr : fr' + 1 ≤ fr ∧ 8 + (maxL' + 11) + lo' ≤ lo) (h9 : cs + mc' ≤ mc ∧ sl + ms' ≤ ms) (hst : st = as.reverse ++ .ref b :: rest) (hW : (rest.map fun v => v.category).sum ≤ 8) (hd : decode cc pc = .ok (.invokespecial idx, 3))
    (k : ∀ u : S, P u → GN g K (cs + mc') (sl + ms') (wr ++ Wf u) (pc + 3) lv rest) : GN g K cs sl (wr ++ wc) pc lv st := by
  obtain ⟨p, e, R, s, m, args, below, meth, c, A, Q, nL⟩ := K
  obtain ⟨hx, hb, hml, hown, hts, hK, hlk, hA, hfr, hlo, hN, hn⟩ := C
  intro H locs ls hP hD hS hl
  obtain ⟨r1, r2⟩ := hR
  have hao : va_AO "StandingArch$Sheet" s := hao9
  subst hfr; subst hlo
  obtain ⟨hPr, hPc⟩ := P_app hP
  obtain ⟨hDr, hDc, hx9⟩ := D_app hD
  have hF : ∀ q, va_A wc H.size q → A q := by
    rintro q (⟨k, e, h⟩ | h)
    · exact hDc.2 k (q, e) h
    · exact hA q (Nat.le_trans hS.1 h)
  have cw : CallB R s args own idx y cc' maxL' none (Cond.code y cc' maxL' none :: BIG) ({ frames := fr', cells := mc', slots := ms', locals := lo' }) mc' ms' as.length ∧ y.name = "<init>" ∧ (Cond.instanceMethod y).before args s = true := by
    refine ⟨⟨rfl, rfl, hr.1, hr.2, pay_in hts (good_code hcd), List.mem_cons_self, hts _ hcd, hts _ hini, ⟨hd0.1, hd0.2.1⟩, fun sig h => ?_, hts _ hl9⟩, hnm, hts _ hi9⟩
    have h5 := hd0.2.2
    rw [h] at h5
    exact (Option.some.inj h5).symm
  refine w_call (va_runI (As := as) (rest := rest) ⟨hx, hb, hml, hown, hts⟩ (M H.size) cw ⟨blind_MN, fun U hU hW => ⟨rfl, by rw [hU], by rw [hU]; exact hPc, va_K.moved hW.alike hK, hDc.weaken (fun _ _ _ _ => trivial), hN.warm hW, va_AO.moved hW.alike hao⟩⟩ rfl rfl hl.1 hst (cats hW) hd ⟨by rw [r1]; exact h9.1, by rw [r2]; exact h9.2⟩) hS (fun q _ h => hF q h) hF (fun v u H1 locs1 hp hP1 hD1 hz1 hk1 hS1 => ?_)
  obtain ⟨rfl, hp⟩ := hp
  obtain ⟨f1, f2⟩ := back_w hPr hDr hx9 hk1 hF hP1 hD1
  exact k u hp H1 locs1 ls f1 f2 hS1 hl
theorem arr_k {s : State} {args : Array Value} {ty : FieldType} (h : (Cond.arrayClass ty).before args s = true) (hs : ∀ cA, s.vm.findClass ("[" ++ ty.toString) = some cA → va_RA s cA ty) : ∃ cA : ClassId, ArrOfT s cA ty ∧ va_RA s cA ty := by
  obtain ⟨cA, kA, comp, f1, f2, f3⟩ := Cond.arrayClass_spec h
  refine ⟨cA, fun N z => ⟨?_, kA, f2, comp, f3⟩, hs cA f1⟩
  intro k h
  cases h
set_option maxHeartbeats 4000000 in
set_option maxRecDepth 20000 in
/-- the law, from its entry -/
theorem whole_start {p : Program} {e : Env} {s : State} {m : MethodId} {below : List Frame} {meth : Method} {c : Code} (l : Launch) {b L : Nat} {xs : Nat → Int32} (hL : L ≤ 2560) (C0 : lw_At p s m meth c b L xs) : W p l e room_1 s m #[Value.ref b] below meth c s.heap [] 0 0 (lw_Z below #[Value.ref b] s) (entryFrame m ([Value.ref b] : List Value).toArray 4) := by
  obtain ⟨hx, hb, hr, hml, hown, hts, hX, hbl, hlocks, hgv⟩ := id C0
  have htsB : ∀ w ∈ BIG, w.before #[Value.ref b] s = true := fun w hw => hts w (wsL_law_in w hw)
  obtain ⟨c0, i0, hk0⟩ := u_known (C := RX0) (T := TX0) (N := 6) (n := 6) htsB inlX0 (htsB _ wit_X0)
  obtain ⟨c1, i1, hk1⟩ := u_known (C := RX1) (T := TX1) (N := 3) (n := 3) htsB inlX1 (htsB _ wit_X1)
  obtain ⟨c2, i2, hk2⟩ := u_known (C := RX2) (T := TX2) (N := 2) (n := 2) htsB inlX2 (htsB _ wit_X2)
  obtain ⟨c3, i3, hk3⟩ := u_known (C := RX3) (T := TX3) (N := 7) (n := 7) htsB inlX3 (htsB _ wit_X3)
  obtain ⟨c4, i4, hk4⟩ := u_known (C := RX4) (T := TX4) (N := 4) (n := 4) htsB inlX4 (htsB _ wit_X4)
  obtain ⟨c5, i5, hk5⟩ := u_known (C := RX5) (T := TX5) (N := 5) (n := 5) htsB inlX5 (htsB _ wit_X5)
  obtain ⟨c6, i6, hk6⟩ := u_known (C := RX6) (T := TX6) (N := 8) (n := 8) htsB inlX6 (htsB _ wit_X6)
  obtain ⟨c7, i7, hk7⟩ := u_known (C := RX7) (T := TX7) (N := 22) (n := 22) htsB inlX7 (htsB _ wit_X7)
  obtain ⟨dC, dI, hKc⟩ : ∃ (dC : Nat → ClassId) (dI : Nat → Nat → Nat), ∀ (k : Nat) (q : vw_C), vwCl[k]? = some q → u_Kn s q.1 q.2.1 q.2.2 (dC k) (dI k) := by
    refine ⟨fun k => if k = 0 then c0 else if k = 1 then c1 else if k = 2 then c2 else if k = 3 then c3 else if k = 4 then c4 else if k = 5 then c5 else if k = 6 then c6 else c7, fun k => if k = 0 then i0 else if k = 1 then i1 else if k = 2 then i2 else if k = 3 then i3 else if k = 4 then i4 else if k = 5 then i5 else if k = 6 then i6 else i7, ?_⟩
    intro k q hq
    match k, hq with
    | 0, hq => cases hq; exact hk0
    | 1, hq => cases hq; exact hk1
    | 2, hq => cases hq; exact hk2
    | 3, hq => cases hq; exact hk3
    | 4, hq => cases hq; exact hk4
    | 5, hq => cases hq; exact hk5
    | 6, hq => cases hq; exact hk6
    | 7, hq => cases hq; exact hk7
    | k + 8, hq => simp [vwCl] at hq
  obtain ⟨cI, hI1, hI2⟩ := arr_k (htsB _ war_int) (fun cA h => h)
  obtain ⟨cL, hL1, hL2⟩ := arr_k (htsB _ war_long) (fun cA h => h)
  have hao : va_AO "StandingArch$Sheet" s := va_AO.of (hts (.arrayOver (.object "StandingArch$Sheet")) (by decide +kernel))
  obtain ⟨comp, cS, kS, g1, _, g3, g4, g5⟩ := Cond.arrayOver_spec (va_AO.use (A := #[]) hao)
  have hK : va_K (dC, dI) vwCl [(cI, .int), (cL, .long), (cS, .object "StandingArch$Sheet")] s := by
    refine ⟨hKc, fun k q h => ?_⟩
    match k, h with
    | 0, h => cases h; exact ⟨hI1, hI2⟩
    | 1, h => cases h; exact ⟨hL1, hL2⟩
    | 2, h => cases h; exact ⟨fun N z => ⟨(fun k h => by cases h), kS, g3, comp, g4⟩, kS, comp, g3, g4, g1, g5⟩
    | k + 3, h => simp at h
  have hN : NWs s := by
    intro w hw
    have hw2 : w ∈ lw_tbl := by
      simp only [nwL, List.mem_cons, List.not_mem_nil, or_false] at hw
      rcases hw with rfl | rfl | rfl | rfl | rfl <;> decide +kernel
    have hot : w.onTables = true := by
      simp only [nwL, List.mem_cons, List.not_mem_nil, or_false] at hw
      rcases hw with rfl | rfl | rfl | rfl | rfl <;> rfl
    exact va_Nw.of hot (hts w hw2)
  have hl := lv_entry ([.ref b]) (n := 4) (Nat.le_of_ble_eq_true rfl)
  rw [lg_entry_eq]
  have key : ∀ (g : Gx) (K : Kx), g = (l, (dC, dI), cI, cL, cS) → K = (p, e, room_1, s, m, #[Value.ref b], below, meth, c, fun q => s.heap.size ≤ q, lw_Z below #[Value.ref b] s, 4) → GN g K 0 0 [] 0 [(0, .ref b)] [] := by
    intro g K hg hKe
    have C : CX g K cL_law RL 4 9 340 := by
      subst hg; subst hKe
      exact ⟨hx, hb, hml, hown, htsB, hK, hlocks, fun q h => h, rfl, rfl, hN, rfl⟩
    have hR : RM K 600000 7302250 := by subst hKe; exact ⟨rfl, rfl⟩
    have hA9 : AOK K := by subst hKe; exact hao
    have hXK : LXK K b L xs := by subst hKe; exact ⟨hX, hbl, Nat.not_le.mpr hbl⟩
    refine n_new 6 [.null, .null, .null, .null, .null, .null, .null, .null] C hR tyX6 inlX6 tyX6_ok wcl_L_7 wit_X6 win_X6 rfl (fun j hj => by rcases (show j = 0 ∨ j = 1 ∨ j = 2 ∨ j = 3 ∨ j = 4 ∨ j = 5 ∨ j = 6 ∨ j = 7 by omega) with rfl | rfl | rfl | rfl | rfl | rfl | rfl | rfl <;> rfl) (by decide) (by decide) dL_law_0 (fun h1 => ?_)
    show GN g K 1 8 [(h1, .inr (6, [.null, .null, .null, .null, .null, .null, .null, .null]))] 3 [(0, .ref b)] [.ref h1]
    refine n_dup C dL_law_3 rfl ?_
    refine n_callIL (wr := []) (wc := [(h1, .inr (6, [.null, .null, .null, .null, .null, .null, .null, .null]))]) C hR hA9 (c_X6_init g h1) wm_L_9 wi_X6_init wc_X6_init win_X6 rfl yd_X6_init.2 ⟨by decide, by decide⟩ ⟨by decide, by decide⟩ rfl (Nat.le_of_ble_eq_true rfl) dL_law_4 (fun q hq => ?_)
    subst hq
    show GN g K 26 319 (WC g q sC0) 7 [(0, .ref b)] [.ref (q 0)]
    refine n_astore_n (lv' := [(0, .ref b), (1, .ref (q 0))]) [1, 0] C dL_law_7 rfl (by decide) rfl ?_
    refine n_new 7 [.int (iZ 0), .null, .null, .null, .null, .null, .null, .null, .null, .int (iZ 0), .null, .long (lZ 0), .int (iZ 0), .null, .long (lZ 0), .long (lZ 0), .long (lZ 0), .int (iZ 0), .null, .long (lZ 0), .long (lZ 0), .null] C hR tyX7 inlX7 tyX7_ok wcl_L_10 wit_X7 win_X7 rfl (fun j hj => by rcases (show j = 0 ∨ j = 1 ∨ j = 2 ∨ j = 3 ∨ j = 4 ∨ j = 5 ∨ j = 6 ∨ j = 7 ∨ j = 8 ∨ j = 9 ∨ j = 10 ∨ j = 11 ∨ j = 12 ∨ j = 13 ∨ j = 14 ∨ j = 15 ∨ j = 16 ∨ j = 17 ∨ j = 18 ∨ j = 19 ∨ j = 20 ∨ j = 21 by omega) with rfl | rfl | rfl | rfl | rfl | rfl | rfl | rfl | rfl | rfl | rfl | rfl | rfl | rfl | rfl | rfl | rfl | rfl | rfl | rfl | rfl | rfl <;> rfl) (by decide) (by decide) dL_law_8 (fun h2 => ?_)
    show GN g K 27 341 (WC g q sC0 ++ [(h2, .inr (7, [.int (iZ 0), .null, .null, .null, .null, .null, .null, .null, .null, .int (iZ 0), .null, .long (lZ 0), .int (iZ 0), .null, .long (lZ 0), .long (lZ 0), .long (lZ 0), .int (iZ 0), .null, .long (lZ 0), .long (lZ 0), .null]))]) 11 [(0, .ref b), (1, .ref (q 0))] [.ref h2]
    refine n_dup C dL_law_11 rfl ?_
    refine n_callIL (wr := WC g q sC0) (wc := [(h2, .inr (7, [.int (iZ 0), .null, .null, .null, .null, .null, .null, .null, .null, .int (iZ 0), .null, .long (lZ 0), .int (iZ 0), .null, .long (lZ 0), .long (lZ 0), .long (lZ 0), .int (iZ 0), .null, .long (lZ 0), .long (lZ 0), .null]))]) C hR hA9 (c_X7_init g h2) wm_L_12 wi_X7_init wc_X7_init win_X7 rfl yd_X7_init.2 ⟨by decide, by decide⟩ ⟨by decide, by decide⟩ rfl (Nat.le_of_ble_eq_true rfl) dL_law_12 (fun q2 hq2 => ?_)
    subst hq2
    show GN g K 39 587 (WC g q sC0 ++ WM g q2 rM0) 15 [(0, .ref b), (1, .ref (q 0))] [.ref (q2 0)]
    refine n_astore_n (lv' := [(0, .ref b), (1, .ref (q 0)), (2, .ref (q2 0))]) [1, 2, 0] C dL_law_15 rfl (by decide) rfl ?_
    refine n_iconst C dL_law_16 ?_
    refine n_istore_n (lv' := [(0, .ref b), (1, .ref (q 0)), (2, .ref (q2 0)), (3, .int (iZ ((0 : Nat) : Int)))]) [1, 2, 3, 0] C dL_law_17 rfl (by decide) rfl ?_
    refine law_loop hL C hR hXK (fun σ ρ i => ?_) (L + 6) 0 (by omega) (by omega) sC0 rM0 2 INV_0
    refine n_iconst C dL_law_693 ?_
    subst hg; subst hKe
    intro H locs ls hP hD hS hl
    refine va_forget (fun q hq => hS.2.2 q hq) ?_
    refine W.widen (k := 600000) (n := 7302250) (by decide) (by decide) ?_
    exact lw_ret hx hb hr hlocks dL_law_694
  exact key _ _ rfl rfl s.heap [] _ (fun k q h => by simp at h) ⟨fun i j p q h => by simp at h, fun k q h => by simp at h⟩ va_S.rf hl
set_option maxHeartbeats 4000000 in
theorem lw_walk (l : Launch) (b : Addr) (xs : List Int32) : MetFree l x (headSpec (Jvm.Cond.code x code maxLocals ret :: tables_1) room_1) (lw_P b xs) (fun _ _ _ _ _ => True) lw_Q := by
  refine MetFree.of_bodyS (code := code) (maxLocals := maxLocals) (ret := ret) (by decide) ?_ ?_
  · intro args s m h hn
    obtain ⟨meth, c, h1, h2, h3, h4, h5, h6, -, -⟩ := Cond.code_spec hn (atoms_spec (ws := Jvm.Cond.code x code maxLocals ret :: tables_1) h _ List.mem_cons_self)
    exact ⟨meth, c, h1, h2, h3, h4, h5, h6⟩
  · intro p e s m args below meth c s₁ B hml0 hP _
    obtain ⟨rfl, hx, hbd, hgv⟩ := hP
    obtain ⟨scr, harrAt, hlist, hof, hsmall⟩ := hx
    obtain ⟨hcb, hkn, -, -⟩ := State.arrayAt?_spec harrAt
    have hown : s.vm.findClass R_law = some m.cls := findClass_of_methodNamed B.named
    have hts0 : ∀ c ∈ (Jvm.Cond.code x code maxLocals ret :: tables_1), c.before #[Value.ref b] s = true := atoms_spec (ws := Jvm.Cond.code x code maxLocals ret :: tables_1) B.pre
    have hts : ∀ w ∈ lw_tbl, w.before #[Value.ref b] s = true := k2_hts_sels lw_privs (fun w hw => hts0 w (List.mem_cons_of_mem _ hw)) lw_privs_ok
    have hml : c.maxLocals = 4 := B.maxLocals_eq (hts0 _ List.mem_cons_self)
    have X₀ : Stand p l e room_1 s m #[Value.ref b] below meth c s₁ [] 0 0 := Stand.of_body B
    have hh0 : s₁.heap = s.heap := by rw [B.state]; rfl
    have hsz : scr.slots.size = xs.length := by rw [← Array.length_toList, hlist, List.length_map]
    have hval : ∀ j : Nat, j < xs.length → scr.slots[j]? = some (.int (xs.getD j 0)) := fun j hj => by
      rw [← Array.getElem?_toList, hlist]
      simp [hj]
    have hbl : b < s.heap.size := (Array.getElem?_eq_some_iff.mp hcb).1
    have hX : va_X b xs.length (fun j => xs.getD j 0) s s.heap := ⟨scr, hcb, hof, hkn, hsz, hval⟩
    have K : W p l e room_1 s m #[Value.ref b] below meth c s₁.heap [] 0 0 (lw_Z below #[Value.ref b] s) (entryFrame m ([Value.ref b] : List Value).toArray 4) := by
      rw [hh0]
      exact whole_start l hbd ⟨B.exec, B.bytes, B.returns, hml, hown, hts, hX, hbl, B.notSynchronized, hgv⟩
    obtain ⟨t, a1, o, b1, b2, b3⟩ := K s₁ rfl X₀
    exact ⟨t, o, a1, b1, b2, b3⟩
theorem lw_pre_spec {args : Array Value} {s : State} (h : (Jvm.Cond.and given_1 narrow_1).before args s = true) (hr : rest_1_c.before args s = true) : ∃ (b : Addr) (xs : List Int32), lw_P b xs args s := by
  have hs := flat_of_before _ h
  have hq := flat_of_before _ hr
  have hc : (Cond.count 1).before args s = true := hs _ (by decide +kernel)
  have harr : (Cond.arrayOf (.arg 0) .int).before args s = true := hs _ (by decide +kernel)
  have hle : (Cond.le (.length (.arg 0)) (.int 2560)).before args s = true := hs _ (by decide +kernel)
  have hlen : (Cond.isInt (.length (.arg 0))).before args s = true := hq _ (by decide +kernel)
  have hall : (Cond.all (.arg 0) (.isInt (.elem (.arg 0) (.index 0)))).before args s = true := hq _ (by decide +kernel)
  obtain ⟨b, xs, hb, hx⟩ := State.ints_of_pre rfl harr hlen hall
  have hsm : xs.length < 2 ^ 31 := hx.choose_spec.2.2.2
  have hev : (Term.length (.arg 0)).eval args s none [] s = some (.int xs.length.toInt32) := hx.length_eval hb
  have hv := Cond.le_ints hev (show (Term.int 2560).eval args s none [] s = some (.int 2560) from rfl)
  have hd : xs.length.toInt32 ≤ 2560 := by
    simpa [Cond.before, Cond.holds, hv] using hle
  have hN : xs.length ≤ 2560 := (Int32.ofNat_le_ofNat hsm (by decide)).mp (show Int32.ofNat xs.length ≤ Int32.ofNat 2560 from hd)
  exact ⟨b, xs, Cond.one_arg hc (show args[0]? = some (.ref b) from hb), hx, hN, h⟩
theorem lw_comes (l : Launch) : Comes l x (Jvm.Cond.code x code maxLocals ret :: tables_1) room_1 (fun tb e args s => Calls_1 tb e args s ∧ rest_1 tb e args s ∧ Pre_1 tb e args s)
    (fun _ _ args s o t => lw_Q args s o t) := by
  intro p e ha hc hk s m args below hf hfit hheap happ hpre
  obtain ⟨b, xs, hP⟩ := lw_pre_spec hpre.2.2 hpre.2.1
  obtain ⟨k, o, h1, h2, h3, hQ⟩ := lw_walk l b xs p e ha hc hk s m args below hf ((Spec.applies_iff_loose hf).mp happ).1 hP trivial
  exact ⟨k, o, h1, h2, h3, hQ⟩
theorem lw_frame {s t : State} {o : Outcome} {args : Array Value} (h : Framed s o t [] 600000 7302250) :
    Framed s o t (fieldLocs frame_1_writes args s ++ arrayLocs frame_1_arrays args s ++ staticLocs frame_1_statics s) 600000 7302250 := h
theorem lw_limb (L : Cond) (hL : ∀ (args : Array Value) (s t : State), L.after args s (.returned (some (.int 1))) t = true) :
    ArmFor flags0 classFile x code maxLocals ret World_1 tables_1 room_1 Calls_1 rest_1 Pre_1
      (fun tb e a s o t => postC L tb e a s o t ∧ Framed s o t (fieldLocs frame_1_writes a s ++ arrayLocs frame_1_arrays a s ++ staticLocs frame_1_statics s) 600000 7302250) := by
  intro l _ _ _ p e ha hc hk s m args below hf hfit hheap happ hpre
  obtain ⟨k, o, h1, h2, h3, rfl, hF⟩ := lw_comes l p e ha hc hk s m args below hf hfit hheap happ hpre
  exact ⟨k, _, h1, h2, h3, hL args s _, lw_frame hF⟩
theorem i_vc : Claimed_1_1 ∧ Claimed_1_2 := ⟨lw_limb limb_1_1 (fun args s t => by simp [limb_1_1, Cond.after, Cond.holds, Cond.value]), lw_limb limb_1_2 (fun args s t => Cond.after_iff.mpr (by
  first | (rw [show limb_1_2 = Cond.eq .result (.int 1) from rfl, Cond.eq_ints (x := 1) (y := 1) rfl rfl]; simp; done) | (simp [limb_1_2, Cond.value, Term.eval]; done)))⟩
