/-! numbers as Ints -/
def iZ (z : Int) : Int32 := Int32.ofInt z
def lZ (z : Int) : Int64 := Int64.ofInt z
def I32 (z : Int) : Prop := -2147483648 ≤ z ∧ z < 2147483648
def I64 (z : Int) : Prop := -9223372036854775808 ≤ z ∧ z < 9223372036854775808
noncomputable def bZ (P : Prop) : Int := @ite Int P (Classical.propDecidable P) 1 0
theorem bZ_t {P : Prop} (h : P) : bZ P = 1 := by unfold bZ; exact if_pos h
theorem bZ_f {P : Prop} (h : ¬ P) : bZ P = 0 := by unfold bZ; exact if_neg h
theorem bZ_or (P : Prop) : bZ P = 0 ∨ bZ P = 1 := by
  by_cases h : P
  · exact Or.inr (bZ_t h)
  · exact Or.inl (bZ_f h)
theorem bZ_0 {P : Prop} : bZ P = 0 ↔ ¬ P := ⟨fun h q => absurd ((bZ_t q).symm.trans h) (by decide), bZ_f⟩
theorem bZ_n0 {P : Prop} : ¬ bZ P = 0 ↔ P := ⟨fun h => Classical.byContradiction fun q => h (bZ_f q), fun h q => absurd ((bZ_t h).symm.trans q) (by decide)⟩
theorem bZ_I (P : Prop) : I32 (bZ P) := by
  unfold I32
  rcases bZ_or P with h | h <;> rw [h] <;> decide
theorem iZ_add (a b : Int) : iZ a + iZ b = iZ (a + b) := (Int32.ofInt_add a b).symm
theorem iZ_sub (a b : Int) : iZ a - iZ b = iZ (a - b) := (Int32.ofInt_sub a b).symm
theorem iZ_mul (a b : Int) : iZ a * iZ b = iZ (a * b) := (Int32.ofInt_mul a b).symm
theorem iZ_neg (a : Int) : - iZ a = iZ (- a) := (Int32.ofInt_neg a).symm
theorem lZ_add (a b : Int) : lZ a + lZ b = lZ (a + b) := (Int64.ofInt_add a b).symm
theorem lZ_sub (a b : Int) : lZ a - lZ b = lZ (a - b) := (Int64.ofInt_sub a b).symm
theorem lZ_mul (a b : Int) : lZ a * lZ b = lZ (a * b) := (Int64.ofInt_mul a b).symm
theorem lZ_neg (a : Int) : - lZ a = lZ (- a) := (Int64.ofInt_neg a).symm
theorem iZ_toInt {z : Int} (h : I32 z) : (iZ z).toInt = z := Int32.toInt_ofInt_of_le (by have := h.1; omega) (by have := h.2; omega)
theorem lZ_toInt {z : Int} (h : I64 z) : (lZ z).toInt = z := Int64.toInt_ofInt_of_le (by have := h.1; omega) (by have := h.2; omega)
theorem iZ_le {a b : Int} (ha : I32 a) (hb : I32 b) : iZ a ≤ iZ b ↔ a ≤ b := by rw [Int32.le_iff_toInt_le, iZ_toInt ha, iZ_toInt hb]
theorem iZ_lt {a b : Int} (ha : I32 a) (hb : I32 b) : iZ a < iZ b ↔ a < b := by rw [Int32.lt_iff_toInt_lt, iZ_toInt ha, iZ_toInt hb]
theorem iZ_eq {a b : Int} (ha : I32 a) (hb : I32 b) : iZ a = iZ b ↔ a = b := by rw [← Int32.toInt_inj, iZ_toInt ha, iZ_toInt hb]
theorem lZ_le {a b : Int} (ha : I64 a) (hb : I64 b) : lZ a ≤ lZ b ↔ a ≤ b := by rw [Int64.le_iff_toInt_le, lZ_toInt ha, lZ_toInt hb]
theorem lZ_lt {a b : Int} (ha : I64 a) (hb : I64 b) : lZ a < lZ b ↔ a < b := by rw [Int64.lt_iff_toInt_lt, lZ_toInt ha, lZ_toInt hb]
theorem lZ_eq {a b : Int} (ha : I64 a) (hb : I64 b) : lZ a = lZ b ↔ a = b := by rw [← Int64.toInt_inj, lZ_toInt ha, lZ_toInt hb]
theorem I32_0 : I32 0 := by unfold I32; decide
theorem I64_0 : I64 0 := by unfold I64; decide
theorem iZ_0 : iZ 0 = 0 := rfl
theorem lZ_0 : lZ 0 = 0 := rfl
theorem iZ_of (v : Int32) : v = iZ v.toInt := (Int32.ofInt_toInt v).symm
theorem lZ_of (v : Int64) : v = lZ v.toInt := (Int64.ofInt_toInt v).symm
theorem iZ_rng (v : Int32) : I32 v.toInt := ⟨by have := Int32.le_toInt v; omega, by have := Int32.toInt_lt v; omega⟩
theorem iZ_l {z : Int} (h : I32 z) : (iZ z).toInt64 = lZ z := by
  apply Int64.toInt_inj.mp
  rw [Int32.toInt_toInt64, iZ_toInt h, lZ_toInt ⟨by have := h.1; omega, by have := h.2; omega⟩]
theorem lZ_div {a b : Int} (ha : I64 a) (hb : I64 b) : lZ a / lZ b = lZ (a.tdiv b) := (Int64.ofInt_tdiv (by have := ha.1; simpa using this) (by have := ha.2; rw [show Int64.maxValue.toInt = 9223372036854775807 from by decide +kernel]; omega) (by have := hb.1; simpa using this) (by have := hb.2; rw [show Int64.maxValue.toInt = 9223372036854775807 from by decide +kernel]; omega)).symm
theorem iZ_div {a b : Int} (ha : I32 a) (hb : I32 b) : iZ a / iZ b = iZ (a.tdiv b) := (Int32.ofInt_tdiv (by have := ha.1; simpa using this) (by have := ha.2; rw [show Int32.maxValue.toInt = 2147483647 from by decide +kernel]; omega) (by have := hb.1; simpa using this) (by have := hb.2; rw [show Int32.maxValue.toInt = 2147483647 from by decide +kernel]; omega)).symm
theorem lZ_rem {a b : Int} (ha : I64 a) (hb : I64 b) : lZ a - lZ a / lZ b * lZ b = lZ (a.tmod b) := by
  rw [lZ_div ha hb, lZ_mul, lZ_sub]
  congr 1
  have := Int.tdiv_mul_add_tmod a b
  omega
theorem iZ_rem {a b : Int} (ha : I32 a) (hb : I32 b) : iZ a - iZ a / iZ b * iZ b = iZ (a.tmod b) := by
  rw [iZ_div ha hb, iZ_mul, iZ_sub]
  congr 1
  have := Int.tdiv_mul_add_tmod a b
  omega
theorem iZ_in {z : Int} {j n : Nat} (hz : z = (j : Int)) (hj : j < n) (hn : n ≤ 1000) : vp_in (iZ z) n ∧ (iZ z).toNatClampNeg = j := by
  have hI : I32 z := by unfold I32; omega
  refine ⟨vp_in_iff.mpr ?_, ?_⟩
  · rw [iZ_toInt hI]; omega
  · show (iZ z).toInt.toNat = j
    rw [iZ_toInt hI]; omega
/-! worlds -/
abbrev BIG : List Cond := wsL_law
abbrev Gx : Type := Launch × va_G × ClassId × ClassId × ClassId
abbrev Kx : Type := Program × Env × Room × State × MethodId × Array Value × List Frame × Method × Code × (Nat → Prop) × (State → Prop) × Nat
def tysG (g : Gx) : List (ClassId × FieldType) := [(g.2.2.1, .int), (g.2.2.2.1, .long), (g.2.2.2.2, .object "StandingArch$Sheet")]
def nwL : List Cond := [.methodLinkNest RX6 11 yX0_init "StandingArch", .methodLinkNest RX6 51 yX2_init "StandingArch", .methodLinkNest RX6 63 yX4_init "StandingArch", .methodLinkNest RX0 31 yX6_areEdges "StandingArch", .methodLinkNest RX0 35 yX6_isLoad "StandingArch"]
def NWs (U : State) : Prop := ∀ w ∈ nwL, va_Nw w U
theorem NWs.warm {s U : State} (hW : s.WarmedH U.vm) (h : NWs s) : NWs U := by
  intro w hw
  have h1 := h w hw
  simp only [nwL, List.mem_cons, List.not_mem_nil, or_false] at hw
  rcases hw with rfl | rfl | rfl | rfl | rfl <;> exact va_Nw.warmM hW h1
theorem NWs.same {s U : State} (hv : s.vm = U.vm) (h : NWs s) : NWs U := by
  intro w hw
  have h1 := h w hw
  simp only [nwL, List.mem_cons, List.not_mem_nil, or_false] at hw
  rcases hw with rfl | rfl | rfl | rfl | rfl <;> exact va_Nw.same rfl hv h1
def updI (f : Nat → Int) (k : Nat) (z : Int) : Nat → Int := fun j => if j = k then z else f j
def up (σ : Nat → Nat → Int) (c k : Nat) (z : Int) : Nat → Nat → Int := fun c' => if c' = c then updI (σ c) k z else σ c'
def upf (σ : Nat → Nat → Int) (c : Nat) (f : Nat → Int) : Nat → Nat → Int := fun c' => if c' = c then f else σ c'
theorem up_s (σ : Nat → Nat → Int) (c k : Nat) (z : Int) : up σ c k z c k = z := by simp [up, updI]
theorem up_c {σ : Nat → Nat → Int} {c k c' : Nat} {z : Int} (h : c' ≠ c) : up σ c k z c' = σ c' := by simp [up, h]
theorem up_k {σ : Nat → Nat → Int} {c k j : Nat} {z : Int} (h : j ≠ k) : up σ c k z c j = σ c j := by simp [up, updI, h]
theorem up_at (σ : Nat → Nat → Int) (c k : Nat) (z : Int) (c' j : Nat) : up σ c k z c' j = if c' = c ∧ j = k then z else σ c' j := by
  by_cases h : c' = c
  · subst h
    by_cases h2 : j = k
    · subst h2; simp [up, updI]
    · simp [up, updI, h2]
  · simp [up, h]
theorem up_eq (σ : Nat → Nat → Int) (c k : Nat) : up σ c k (σ c k) = σ := by
  funext c' j
  rw [up_at]
  split
  · rename_i h; rw [h.1, h.2]
  · rfl
def WD (nC : Nat) (E : Nat → (Nat → Int) → va_E) (q : Nat → Nat) (σ : Nat → Nat → Int) : va_W := (List.range nC).map (fun c => (q c, E c (σ c)))
theorem WD_get {nC : Nat} {E : Nat → (Nat → Int) → va_E} {q : Nat → Nat} {σ : Nat → Nat → Int} {c : Nat} (h : c < nC) : (WD nC E q σ)[c]? = some (q c, E c (σ c)) := by
  unfold WD
  rw [List.getElem?_map, List.getElem?_range h]
  rfl
theorem WD_set {nC : Nat} {E : Nat → (Nat → Int) → va_E} {q : Nat → Nat} {σ : Nat → Nat → Int} {c : Nat} (f : Nat → Int) : (WD nC E q σ).set c (q c, E c f) = WD nC E q (upf σ c f) := by
  apply List.ext_getElem?
  intro i
  unfold WD
  rw [List.getElem?_set, List.getElem?_map, List.getElem?_map, List.length_map, List.length_range]
  by_cases hi : i < nC
  · rw [List.getElem?_range hi]
    by_cases hc : c = i
    · subst hc; simp [upf, hi]
    · simp [upf, hc, Ne.symm hc]
  · rw [List.getElem?_eq_none (by simpa using hi)]
    by_cases hc : c = i
    · subst hc; simp [hi]
    · simp [hc]
/-! the judgements -/
def GJ (g : Gx) (K : Kx) (ws : va_W) (pc : Nat) (lv : List (Nat × Value)) (st : List Value) : Prop := match K with
  | (p, e, R, s, m, args, below, meth, c, A, Q, nL) => ∀ (H : Heap) (locs : List Loc) (ls : Array Slot), va_P g.2.1 vwCl ws H → va_D A ws → va_S A s.heap H locs → lv_has ls nL lv → W p g.1 e R s m args below meth c H locs 0 0 Q (F0 m pc ls st)
def CX (g : Gx) (K : Kx) (cc : ByteArray) (own : String) (n fr lo : Nat) : Prop := match K with
  | (p, _, R, s, m, args, _, meth, c, A, _, nL) => p.tables.exec = Jvm.exec ∧ c.code = cc ∧ c.maxLocals = nL ∧ s.vm.findClass own = some m.cls ∧ (∀ w ∈ BIG, w.before args s = true) ∧ va_K g.2.1 vwCl (tysG g) s ∧ meth.locks = false ∧ (∀ q : Nat, s.heap.size ≤ q → A q) ∧ R.frames = fr ∧ R.locals = lo ∧ NWs s ∧ nL = n
def QV {S : Type} (g : Gx) (A : Nat → Prop) (Wf : S → va_W) (post : Option Value → S → Prop) : Array Value → State → Outcome → State → Prop := fun _ st oc t => (∃ (v : Option Value) (u : S), oc = .returned v ∧ post v u ∧ va_P g.2.1 vwCl (Wf u) t.heap ∧ va_D A (Wf u)) ∧ va_F A st t
def RT {S : Type} (g : Gx) (K : Kx) (ret : Option FieldType) (Wf : S → va_W) (post : Option Value → S → Prop) : Prop := match K with
  | (_, _, _, s, _, args, below, meth, _, A, Q, _) => meth.sig.returnType = ret ∧ Q = MQ below (QV g A Wf post) args s 0 0 A
def MC {S : Type} (g : Gx) (y : MethodName) (cc : ByteArray) (maxL : Nat) (ret : Option FieldType) (fr lo : Nat) (ws : va_W) (as : List Value) (Wf : S → va_W) (post : Option Value → S → Prop) : Prop :=
  ∀ sz : Nat, Met g.1 y (Cond.code y cc maxL ret :: BIG) ({ frames := fr, cells := 0, slots := 0, locals := lo }) (va_Pc as (fun U => U.heap.size = sz ∧ va_P g.2.1 vwCl ws U.heap ∧ va_K g.2.1 vwCl (tysG g) U ∧ va_D (fun _ => True) ws ∧ NWs U)) (QV g (va_A ws sz) Wf post) 0 0 (va_A ws sz)
def pI {S : Type} (P : Int → S → Prop) : Option Value → S → Prop := fun v u => ∃ z, v = some (.int (iZ z)) ∧ P z u
def pL {S : Type} (P : Int → S → Prop) : Option Value → S → Prop := fun v u => ∃ z, v = some (.long (lZ z)) ∧ P z u
def pV {S : Type} (P : S → Prop) : Option Value → S → Prop := fun v u => v = none ∧ P u
theorem MC_intro {S : Type} {g : Gx} {y : MethodName} {cc : ByteArray} {maxL : Nat} {ret : Option FieldType} {fr lo : Nat} {ws : va_W} {as : List Value} {Wf : S → va_W} {post : Option Value → S → Prop} {own : String} (hown : y.cls = own) (hy : plainName y.cls = true) (hlen : (lg_sl as).length ≤ maxL)
    (body : ∀ K : Kx, CX g K cc own maxL fr lo → RT g K ret Wf post → GJ g K ws 0 (lv_args 0 as) []) : MC g y cc maxL ret fr lo ws as Wf post := by
  intro sz
  refine Met.ofW (cc := cc) (maxL := maxL) (ret := ret) hy rfl ?_
  intro p e s m args below meth c s₁ B hml hv
  obtain ⟨rfl, hsz, hP, hK, hD0, hN⟩ := hv
  have hts := atoms_spec (ws := Cond.code y cc maxL ret :: BIG) B.pre
  subst hsz
  subst hown
  have h := body (p, e, (headSpec (Cond.code y cc maxL ret :: BIG) ({ frames := fr, cells := 0, slots := 0, locals := lo })).room, s, m, as.toArray, below, meth, c, va_A ws s.heap.size, MQ below (QV g (va_A ws s.heap.size) Wf post) as.toArray s 0 0 (va_A ws s.heap.size), maxL)
    ⟨B.exec, B.bytes, hml, findClass_of_methodNamed B.named, fun w hw => hts w (List.mem_cons_of_mem _ hw), hK, B.notSynchronized, fun q h => Or.inr h, rfl, rfl, hN, rfl⟩ ⟨B.returns, rfl⟩
  rw [lg_entry_eq]
  exact h s.heap [] _ hP (hD0.self) va_S.rf (lv_entry as hlen)
theorem BIG_good : BIG.all goodWord = true := by decide +kernel
theorem good_code {y : MethodName} {cc : ByteArray} {maxL : Nat} {ret : Option FieldType} (h : Cond.code y cc maxL ret ∈ BIG) : GoodIn BIG (Cond.code y cc maxL ret :: BIG) := by
  intro w hw
  have hm : w ∈ BIG := (List.mem_cons.mp hw).elim (fun e => e ▸ h) id
  exact ⟨hm, good_of_word (List.all_eq_true.mp BIG_good w hm)⟩
theorem good_V {own : String} {idx : Nat} {C : String} {y : MethodName} {cc : ByteArray} {maxL : Nat} {ret : Option FieldType} (h1 : Cond.methodLink own idx y ∈ BIG) (h2 : Cond.instanceMethod y ∈ BIG) (h3 : Cond.selects C y y ∈ BIG) (h4 : Cond.initialized C ∈ BIG) (h : Cond.code y cc maxL ret ∈ BIG) : GoodIn BIG (wsV own idx C y (Cond.code y cc maxL ret :: BIG)) := by
  refine goodIn_app (fun w hw => ?_) (good_code h)
  have hm : w ∈ BIG := by
    simp only [List.mem_cons, List.not_mem_nil, or_false] at hw
    rcases hw with rfl | rfl | rfl | rfl <;> assumption
  exact ⟨hm, good_of_word (List.all_eq_true.mp BIG_good w hm)⟩
theorem good_S {own : String} {idx : Nat} {y : MethodName} {cc : ByteArray} {maxL : Nat} {ret : Option FieldType} (h1 : Cond.methodLink own idx y ∈ BIG) (h2 : Cond.static y ∈ BIG) (h4 : Cond.initialized own ∈ BIG) (h : Cond.code y cc maxL ret ∈ BIG) : GoodIn BIG (wsS own idx y (Cond.code y cc maxL ret :: BIG)) := by
  refine goodIn_app (fun w hw => ?_) (good_code h)
  have hm : w ∈ BIG := by
    simp only [List.mem_cons, List.not_mem_nil, or_false] at hw
    rcases hw with rfl | rfl | rfl <;> assumption
  exact ⟨hm, good_of_word (List.all_eq_true.mp BIG_good w hm)⟩
theorem blind_MC {g : Gx} {as : List Value} {sz : Nat} {ws : va_W} : FrameBlind (va_Pc as (fun U => U.heap.size = sz ∧ va_P g.2.1 vwCl ws U.heap ∧ va_K g.2.1 vwCl (tysG g) U ∧ va_D (fun _ => True) ws ∧ NWs U)) := by
  intro a U gg mk q
  obtain ⟨q0, q1, qP, qK, qD, qN⟩ := q
  exact ⟨q0, q1, qP, va_K.moved (u := U) (U := U.calling gg mk a) (Vm.Alike.refl U.vm) qK, qD, NWs.same (s := U) (U := U.calling gg mk a) rfl qN⟩
/-- behind any call, whatever the answer -/
theorem w_call {p : Program} {l : Launch} {e : Env} {R : Room} {s : State} {m : MethodId} {args : Array Value} {below : List Frame} {meth : Method} {c : Code} {H : Heap} {locs : List Loc} {cells slots : Nat} {Q : State → Prop} {pc : Nat} {ls : Array Slot} {rest st0 : List Value} {a : Array Value} {A0 A1 : Nat → Prop} {H0 : Heap} {mc ms : Nat} {free : Addr → Prop} {S : Type} {g : Gx} {Wf : S → va_W} {post : Option Value → S → Prop}
    (hr : va_Run p l e R s m args below meth c H locs cells slots mc ms (F0 m pc ls st0) rest (QV g A1 Wf post a) free) (hS : va_S A0 H0 H locs) (hA : ∀ q, q < H.size → A1 q → A0 q) (hf : ∀ q, free q → A0 q)
    (kk : ∀ (v : Option Value) (u : S) (H1 : Heap) (locs1 : List Loc), post v u → va_P g.2.1 vwCl (Wf u) H1 → va_D A1 (Wf u) → H.size ≤ H1.size → (∀ q : Nat, q < H.size → ¬ A1 q → H1[q]? = H[q]?) → va_S A0 H0 H1 locs1 → W p l e R s m args below meth c H1 locs1 (cells + mc) (slots + ms) Q (F0 m (pc + 3) ls (v.toList ++ rest))) : W p l e R s m args below meth c H locs cells slots Q (F0 m pc ls st0) := by
  intro T hT X
  obtain ⟨v, st₀, t, T', L, h0, X', hL, e1, e2, ⟨⟨v2, u, hv, hp, hb, hd⟩, hz, hk⟩, st⟩ := hr T hT X
  cases hv
  rw [h0] at hz hk
  obtain ⟨t2, a1, b1⟩ := kk v u T'.heap (locs ++ L) hp (by rw [e1]; exact hb) hd (by rw [e1]; exact hz) (fun q h1 h2 => by rw [e1]; exact hk q h1 h2)
    ⟨Nat.le_trans hS.1 (by rw [e1]; exact hz), fun q h1 h2 => by rw [e1, hk q (Nat.lt_of_lt_of_le h1 hS.1) (fun z => h2 (hA q (Nat.lt_of_lt_of_le h1 hS.1) z))]; exact hS.2.1 q h1 h2, fun q hq => by
      rcases List.mem_append.mp hq with h | h
      · exact hS.2.2 q h
      · exact hf _ (hL q h)⟩ T' rfl X'
  exact ⟨t2, st t2 a1, b1⟩
