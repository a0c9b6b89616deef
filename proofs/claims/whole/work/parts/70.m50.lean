/-! the judgement with its cells and slots counted: for what makes cells -/
def GN (g : Gx) (K : Kx) (cs sl : Nat) (ws : va_W) (pc : Nat) (lv : List (Nat × Value)) (st : List Value) : Prop := match K with
  | (p, e, R, s, m, args, below, meth, c, A, Q, nL) => ∀ (H : Heap) (locs : List Loc) (ls : Array Slot), va_P g.2.1 vwCl ws H → va_D A ws → va_S A s.heap H locs → lv_has ls nL lv → W p g.1 e R s m args below meth c H locs cs sl Q (F0 m pc ls st)
/-- the room for cells, the method's name, the word on rows of Sheets -/
def RM (K : Kx) (mc ms : Nat) : Prop := match K with
  | (_, _, R, _, _, _, _, _, _, _, _, _) => R.cells = mc ∧ R.slots = ms
def INI (K : Kx) : Prop := match K with
  | (_, _, _, s, _, _, _, meth, _, _, _, _) => meth.name = "<init>" ∧ va_AO "StandingArch$Sheet" s
theorem n_iconst {cs sl : Nat} {g : Gx} {K : Kx} {cc : ByteArray} {own : String} {n fr lo : Nat} {ws : va_W} {pc : Nat} {lv : List (Nat × Value)} {rest : List Value} {z : Int} (C : CX g K cc own n fr lo) (hd : decode cc pc = .ok (.iconst z, 1)) (k : GN g K cs sl ws (pc + 1) lv (.int (iZ z) :: rest)) : GN g K cs sl ws pc lv rest := by
  obtain ⟨p, e, R, s, m, args, below, meth, c, A, Q, nL⟩ := K
  obtain ⟨hx, hb, hml, hown, hts, hK, hlk, hA, hfr, hlo, hN, hn⟩ := C
  intro H locs ls hP hD hS hl
  exact lv_iconst hx hb hd rfl (k H locs ls hP hD hS hl)
theorem n_bipush {cs sl : Nat} {g : Gx} {K : Kx} {cc : ByteArray} {own : String} {n fr lo : Nat} {ws : va_W} {pc : Nat} {lv : List (Nat × Value)} {rest : List Value} {z : Int} (C : CX g K cc own n fr lo) (hd : decode cc pc = .ok (.bipush z, 2)) (hz : (Int8.ofInt z).toInt32 = iZ z) (k : GN g K cs sl ws (pc + 2) lv (.int (iZ z) :: rest)) : GN g K cs sl ws pc lv rest := by
  obtain ⟨p, e, R, s, m, args, below, meth, c, A, Q, nL⟩ := K
  obtain ⟨hx, hb, hml, hown, hts, hK, hlk, hA, hfr, hlo, hN, hn⟩ := C
  intro H locs ls hP hD hS hl
  exact lv_bipush hx hb hd hz (k H locs ls hP hD hS hl)
theorem n_lconst {cs sl : Nat} {g : Gx} {K : Kx} {cc : ByteArray} {own : String} {n fr lo : Nat} {ws : va_W} {pc : Nat} {lv : List (Nat × Value)} {rest : List Value} {j : Fin 2} (z : Int) (C : CX g K cc own n fr lo) (hd : decode cc pc = .ok (.lconst j, 1)) (hz : Int64.ofNat (j : Nat) = lZ z) (k : GN g K cs sl ws (pc + 1) lv (.long (lZ z) :: rest)) : GN g K cs sl ws pc lv rest := by
  obtain ⟨p, e, R, s, m, args, below, meth, c, A, Q, nL⟩ := K
  obtain ⟨hx, hb, hml, hown, hts, hK, hlk, hA, hfr, hlo, hN, hn⟩ := C
  intro H locs ls hP hD hS hl
  exact lv_lconst hx hb hd hz (k H locs ls hP hD hS hl)
theorem n_iload_n {cs sl : Nat} {g : Gx} {K : Kx} {cc : ByteArray} {own : String} {n fr lo : Nat} {ws : va_W} {pc : Nat} {lv : List (Nat × Value)} {rest : List Value} {j : Fin 4} {i : Nat} {x : Int32} (k : Nat) (C : CX g K cc own n fr lo) (hk : lv[k]? = some (i, .int x)) (hd : decode cc pc = .ok (.iload_n j, 1)) (hi : (j : Nat) = i) (kk : GN g K cs sl ws (pc + 1) lv (.int x :: rest)) : GN g K cs sl ws pc lv rest := by
  obtain ⟨p, e, R, s, m, args, below, meth, c, A, Q, nL⟩ := K
  obtain ⟨hx, hb, hml, hown, hts, hK, hlk, hA, hfr, hlo, hN, hn⟩ := C
  intro H locs ls hP hD hS hl
  exact lv_iload_n hx hb hd hi (lv_at hl k hk) (kk H locs ls hP hD hS hl)
theorem n_istore_n {cs sl : Nat} {g : Gx} {K : Kx} {cc : ByteArray} {own : String} {n fr lo : Nat} {ws : va_W} {pc : Nat} {lv : List (Nat × Value)} {rest : List Value} {j : Fin 4} {i : Nat} {x : Int32} {lv' : List (Nat × Value)} (ks : List Nat) (C : CX g K cc own n fr lo) (hd : decode cc pc = .ok (.istore_n j, 1)) (hi : (j : Nat) = i) (hn9 : i < n) (hl9 : lv_pick ((i, Value.int x) :: lv.filter (fun q => !(q.1 == i) && !(q.1 + 1 == i && q.2.category == 2))) ks = lv') (kk : GN g K cs sl ws (pc + 1) lv' rest) : GN g K cs sl ws pc lv (.int x :: rest) := by
  obtain ⟨p, e, R, s, m, args, below, meth, c, A, Q, nL⟩ := K
  obtain ⟨hx, hb, hml, hown, hts, hK, hlk, hA, hfr, hlo, hN, hn⟩ := C
  intro H locs ls hP hD hS hl
  subst hn
  exact lv_istore_n hx hb hd hi hl hn9 rfl (fun ls' hl' => kk H locs ls' hP hD hS (lv_sub hl' ks hl9))
theorem n_aload_n {cs sl : Nat} {g : Gx} {K : Kx} {cc : ByteArray} {own : String} {n fr lo : Nat} {ws : va_W} {pc : Nat} {lv : List (Nat × Value)} {rest : List Value} {j : Fin 4} {i : Nat} {x : Nat} (k : Nat) (C : CX g K cc own n fr lo) (hk : lv[k]? = some (i, .ref x)) (hd : decode cc pc = .ok (.aload_n j, 1)) (hi : (j : Nat) = i) (kk : GN g K cs sl ws (pc + 1) lv (.ref x :: rest)) : GN g K cs sl ws pc lv rest := by
  obtain ⟨p, e, R, s, m, args, below, meth, c, A, Q, nL⟩ := K
  obtain ⟨hx, hb, hml, hown, hts, hK, hlk, hA, hfr, hlo, hN, hn⟩ := C
  intro H locs ls hP hD hS hl
  exact lv_aload_n hx hb hd hi (lv_at hl k hk) (kk H locs ls hP hD hS hl)
theorem n_astore_n {cs sl : Nat} {g : Gx} {K : Kx} {cc : ByteArray} {own : String} {n fr lo : Nat} {ws : va_W} {pc : Nat} {lv : List (Nat × Value)} {rest : List Value} {j : Fin 4} {i : Nat} {x : Nat} {lv' : List (Nat × Value)} (ks : List Nat) (C : CX g K cc own n fr lo) (hd : decode cc pc = .ok (.astore_n j, 1)) (hi : (j : Nat) = i) (hn9 : i < n) (hl9 : lv_pick ((i, Value.ref x) :: lv.filter (fun q => !(q.1 == i) && !(q.1 + 1 == i && q.2.category == 2))) ks = lv') (kk : GN g K cs sl ws (pc + 1) lv' rest) : GN g K cs sl ws pc lv (.ref x :: rest) := by
  obtain ⟨p, e, R, s, m, args, below, meth, c, A, Q, nL⟩ := K
  obtain ⟨hx, hb, hml, hown, hts, hK, hlk, hA, hfr, hlo, hN, hn⟩ := C
  intro H locs ls hP hD hS hl
  subst hn
  exact lv_astore_n hx hb hd hi hl hn9 rfl (fun ls' hl' => kk H locs ls' hP hD hS (lv_sub hl' ks hl9))
theorem n_iinc {cs sl : Nat} {g : Gx} {K : Kx} {cc : ByteArray} {own : String} {n fr lo : Nat} {ws : va_W} {pc : Nat} {lv : List (Nat × Value)} {rest : List Value} {i : Nat} {z d : Int} {lv' : List (Nat × Value)} (k : Nat) (ks : List Nat) (C : CX g K cc own n fr lo) (hk : lv[k]? = some (i, .int (iZ z))) (hd : decode cc pc = .ok (.iinc i d, 3)) (hn9 : i < n) (hl9 : lv_pick ((i, Value.int (iZ (z + d))) :: lv.filter (fun q => !(q.1 == i) && !(q.1 + 1 == i && q.2.category == 2))) ks = lv') (kk : GN g K cs sl ws (pc + 3) lv' rest) : GN g K cs sl ws pc lv rest := by
  obtain ⟨p, e, R, s, m, args, below, meth, c, A, Q, nL⟩ := K
  obtain ⟨hx, hb, hml, hown, hts, hK, hlk, hA, hfr, hlo, hN, hn⟩ := C
  intro H locs ls hP hD hS hl
  subst hn
  exact lv_iinc (v := iZ (z + d)) hx hb hd hl hk (iZ_add z d) hn9 rfl (fun ls' hl' => kk H locs ls' hP hD hS (lv_sub hl' ks hl9))
theorem n_lv {cs sl : Nat} {g : Gx} {K : Kx} {ws : va_W} {pc : Nat} {lv lv' : List (Nat × Value)} {st : List Value} (ks : List Nat) (h : lv_pick lv ks = lv') (k : GN g K cs sl ws pc lv' st) : GN g K cs sl ws pc lv st := by
  obtain ⟨p, e, R, s, m, args, below, meth, c, A, Q, nL⟩ := K
  intro H locs ls hP hD hS hl
  exact k H locs ls hP hD hS (lv_sub hl ks h)
theorem n_iadd {cs sl : Nat} {g : Gx} {K : Kx} {cc : ByteArray} {own : String} {n fr lo : Nat} {ws : va_W} {pc : Nat} {lv : List (Nat × Value)} {rest : List Value} {a b : Int} (C : CX g K cc own n fr lo) (hd : decode cc pc = .ok (.iadd, 1)) (k : GN g K cs sl ws (pc + 1) lv (.int (iZ (a + b)) :: rest)) : GN g K cs sl ws pc lv (.int (iZ b) :: .int (iZ a) :: rest) := by
  obtain ⟨p, e, R, s, m, args, below, meth, c, A, Q, nL⟩ := K
  obtain ⟨hx, hb, hml, hown, hts, hK, hlk, hA, hfr, hlo, hN, hn⟩ := C
  intro H locs ls hP hD hS hl
  refine lv_iadd hx hb hd ?_
  rw [iZ_add]
  exact k H locs ls hP hD hS hl
theorem n_isub {cs sl : Nat} {g : Gx} {K : Kx} {cc : ByteArray} {own : String} {n fr lo : Nat} {ws : va_W} {pc : Nat} {lv : List (Nat × Value)} {rest : List Value} {a b : Int} (C : CX g K cc own n fr lo) (hd : decode cc pc = .ok (.isub, 1)) (k : GN g K cs sl ws (pc + 1) lv (.int (iZ (a - b)) :: rest)) : GN g K cs sl ws pc lv (.int (iZ b) :: .int (iZ a) :: rest) := by
  obtain ⟨p, e, R, s, m, args, below, meth, c, A, Q, nL⟩ := K
  obtain ⟨hx, hb, hml, hown, hts, hK, hlk, hA, hfr, hlo, hN, hn⟩ := C
  intro H locs ls hP hD hS hl
  refine lv_isub hx hb hd ?_
  rw [iZ_sub]
  exact k H locs ls hP hD hS hl
theorem n_dup {cs sl : Nat} {g : Gx} {K : Kx} {cc : ByteArray} {own : String} {n fr lo : Nat} {ws : va_W} {pc : Nat} {lv : List (Nat × Value)} {rest : List Value} {v : Value} (C : CX g K cc own n fr lo) (hd : decode cc pc = .ok (.dup, 1)) (hv : v.category = 1) (k : GN g K cs sl ws (pc + 1) lv (v :: v :: rest)) : GN g K cs sl ws pc lv (v :: rest) := by
  obtain ⟨p, e, R, s, m, args, below, meth, c, A, Q, nL⟩ := K
  obtain ⟨hx, hb, hml, hown, hts, hK, hlk, hA, hfr, hlo, hN, hn⟩ := C
  intro H locs ls hP hD hS hl
  exact lv_dup hx hb hd hv (k H locs ls hP hD hS hl)
theorem n_goto {cs sl : Nat} {g : Gx} {K : Kx} {cc : ByteArray} {own : String} {n fr lo : Nat} {ws : va_W} {pc : Nat} {lv : List (Nat × Value)} {rest : List Value} {off : Int} (tgt : Nat) (C : CX g K cc own n fr lo) (hd : decode cc pc = .ok (.goto off, 3)) (ht : (pc : Int) + off = (tgt : Int)) (k : GN g K cs sl ws tgt lv rest) : GN g K cs sl ws pc lv rest := by
  obtain ⟨p, e, R, s, m, args, below, meth, c, A, Q, nL⟩ := K
  obtain ⟨hx, hb, hml, hown, hts, hK, hlk, hA, hfr, hlo, hN, hn⟩ := C
  intro H locs ls hP hD hS hl
  exact lv_goto hx hb hd ht (k H locs ls hP hD hS hl)
theorem n_icmp_eq {cs sl : Nat} {g : Gx} {K : Kx} {cc : ByteArray} {own : String} {n fr lo : Nat} {ws : va_W} {pc : Nat} {lv : List (Nat × Value)} {rest : List Value} {a b off : Int} (tgt : Nat) (C : CX g K cc own n fr lo) (ha : I32 a) (hb9 : I32 b) (hd : decode cc pc = .ok (.if_icmp .eq off, 3)) (ht : (pc : Int) + off = (tgt : Int)) (kt : a = b → GN g K cs sl ws tgt lv rest) (kf : a ≠ b → GN g K cs sl ws (pc + 3) lv rest) : GN g K cs sl ws pc lv (.int (iZ b) :: .int (iZ a) :: rest) := by
  obtain ⟨p, e, R, s, m, args, below, meth, c, A, Q, nL⟩ := K
  obtain ⟨hx, hb, hml, hown, hts, hK, hlk, hA, hfr, hlo, hN, hn⟩ := C
  intro H locs ls hP hD hS hl
  exact lv_icmp_eq hx hb hd ht (fun q => kt ((iZ_eq ha hb9).mp q) H locs ls hP hD hS hl) (fun q => kf (fun r => q ((iZ_eq ha hb9).mpr r)) H locs ls hP hD hS hl)
theorem n_icmp_ge {cs sl : Nat} {g : Gx} {K : Kx} {cc : ByteArray} {own : String} {n fr lo : Nat} {ws : va_W} {pc : Nat} {lv : List (Nat × Value)} {rest : List Value} {a b off : Int} (tgt : Nat) (C : CX g K cc own n fr lo) (ha : I32 a) (hb9 : I32 b) (hd : decode cc pc = .ok (.if_icmp .ge off, 3)) (ht : (pc : Int) + off = (tgt : Int)) (kt : b ≤ a → GN g K cs sl ws tgt lv rest) (kf : a < b → GN g K cs sl ws (pc + 3) lv rest) : GN g K cs sl ws pc lv (.int (iZ b) :: .int (iZ a) :: rest) := by
  obtain ⟨p, e, R, s, m, args, below, meth, c, A, Q, nL⟩ := K
  obtain ⟨hx, hb, hml, hown, hts, hK, hlk, hA, hfr, hlo, hN, hn⟩ := C
  intro H locs ls hP hD hS hl
  exact lv_icmp_ge hx hb hd ht (fun q => kt ((iZ_le hb9 ha).mp q) H locs ls hP hD hS hl) (fun q => kf (by have h9 := mt (iZ_le hb9 ha).mpr q; omega) H locs ls hP hD hS hl)
theorem n_icmp_gt {cs sl : Nat} {g : Gx} {K : Kx} {cc : ByteArray} {own : String} {n fr lo : Nat} {ws : va_W} {pc : Nat} {lv : List (Nat × Value)} {rest : List Value} {a b off : Int} (tgt : Nat) (C : CX g K cc own n fr lo) (ha : I32 a) (hb9 : I32 b) (hd : decode cc pc = .ok (.if_icmp .gt off, 3)) (ht : (pc : Int) + off = (tgt : Int)) (kt : b < a → GN g K cs sl ws tgt lv rest) (kf : a ≤ b → GN g K cs sl ws (pc + 3) lv rest) : GN g K cs sl ws pc lv (.int (iZ b) :: .int (iZ a) :: rest) := by
  obtain ⟨p, e, R, s, m, args, below, meth, c, A, Q, nL⟩ := K
  obtain ⟨hx, hb, hml, hown, hts, hK, hlk, hA, hfr, hlo, hN, hn⟩ := C
  intro H locs ls hP hD hS hl
  exact lv_icmp_gt hx hb hd ht (fun q => kt ((iZ_lt hb9 ha).mp q) H locs ls hP hD hS hl) (fun q => kf (by have h9 := mt (iZ_lt hb9 ha).mpr q; omega) H locs ls hP hD hS hl)
theorem n_lcmp_eq {cs sl : Nat} {g : Gx} {K : Kx} {cc : ByteArray} {own : String} {n fr lo : Nat} {ws : va_W} {pc : Nat} {lv : List (Nat × Value)} {rest : List Value} {a b off : Int} (tgt : Nat) (C : CX g K cc own n fr lo) (ha : I64 a) (hb9 : I64 b) (hd0 : decode cc pc = .ok (.lcmp, 1)) (hd : decode cc (pc + 1) = .ok (.ifCond .eq off, 3)) (ht : ((pc + 1 : Nat) : Int) + off = (tgt : Int)) (kt : a = b → GN g K cs sl ws tgt lv rest) (kf : a ≠ b → GN g K cs sl ws (pc + 4) lv rest) : GN g K cs sl ws pc lv (.long (lZ b) :: .long (lZ a) :: rest) := by
  obtain ⟨p, e, R, s, m, args, below, meth, c, A, Q, nL⟩ := K
  obtain ⟨hx, hb, hml, hown, hts, hK, hlk, hA, hfr, hlo, hN, hn⟩ := C
  intro H locs ls hP hD hS hl
  refine W.lcmp hx hb hd0 ?_
  exact lv_if_eq hx hb hd ht (fun q => kt (((lg_cmp_eq _ _).trans (lZ_eq ha hb9)).mp q) H locs ls hP hD hS hl) (fun q => kf (fun r => q (((lg_cmp_eq _ _).trans (lZ_eq ha hb9)).mpr r)) H locs ls hP hD hS hl)
theorem n_get {cs sl : Nat} {g : Gx} {K : Kx} {cc : ByteArray} {own : String} {n fr lo : Nat} {ws : va_W} {pc : Nat} {lv : List (Nat × Value)} {rest : List Value} (C : CX g K cc own n fr lo) (q0 ci k : Nat) {a N idx : Nat} {fs : List Value} {C0 : String} {T0 : u_T} {v : Value} (he : ws[q0]? = some (a, .inr (ci, fs))) (hc : vwCl[ci]? = some (C0, T0, N)) (hk : k < N) (hin : ∀ w ∈ u_ws C0 T0 N, w ∈ BIG) (hlink : Cond.fieldLink own idx (T0 k).1 (T0 k).2.1 (T0 k).2.2.1 ∈ BIG) (hv : fs[k]? = some v) (hd : decode cc pc = .ok (.getfield idx, 3)) (kk : GN g K cs sl ws (pc + 3) lv (v :: rest)) : GN g K cs sl ws pc lv (.ref a :: rest) := by
  obtain ⟨p, e, R, s, m, args, below, meth, c, A, Q, nL⟩ := K
  obtain ⟨hx, hb, hml, hown, hts, hK, hlk, hA, hfr, hlo, hN, hn⟩ := C
  intro H locs ls hP hD hS hl
  exact va_get hx hb hts hin hown hK hP q0 he hc k hk (hts _ hlink) (fun _ h9 => h9) hv hd (kk H locs ls hP hD hS hl)
theorem n_put {cs sl : Nat} {g : Gx} {K : Kx} {cc : ByteArray} {own : String} {n fr lo : Nat} {ws : va_W} {pc : Nat} {lv : List (Nat × Value)} {rest : List Value} (C : CX g K cc own n fr lo) (q0 ci k : Nat) {a N idx : Nat} {fs : List Value} {C0 : String} {T0 : u_T} {v : Value} {ws' : va_W} (ty0 : Nat → FieldType) (he : ws[q0]? = some (a, .inr (ci, fs))) (hc : vwCl[ci]? = some (C0, T0, N)) (hk : k < N) (hin : ∀ w ∈ u_ws C0 T0 N, w ∈ BIG) (hty : ∀ k, k < N → parseFieldDescriptor (T0 k).2.2.1 = some (ty0 k)) (hnm : ∀ a, a < N → ∀ b, b < N → a ≠ b → (T0 a).2.1 ≠ (T0 b).2.1) (hlink : Cond.fieldLink own idx (T0 k).1 (T0 k).2.1 (T0 k).2.2.1 ∈ BIG) (hfin : (T0 k).2.2.2 = false) (hn9 : narrow (ty0 k) v = v) (hfit : fits (ty0 k) v = true) (hlen : k < fs.length) (hset : ws.set q0 (a, .inr (ci, fs.set k v)) = ws') (hd : decode cc pc = .ok (.putfield idx, 3)) (kk : GN g K cs sl ws' (pc + 3) lv rest) : GN g K cs sl ws pc lv (v :: .ref a :: rest) := by
  obtain ⟨p, e, R, s, m, args, below, meth, c, A, Q, nL⟩ := K
  obtain ⟨hx, hb, hml, hown, hts, hK, hlk, hA, hfr, hlo, hN, hn⟩ := C
  intro H locs ls hP hD hS hl
  subst hset
  exact va_put hx hb hts hin ty0 hty hnm hown hK hP hD hS q0 he hc k hk (hts _ hlink) (fun _ h9 => h9) hfin (hty k hk) hn9 hfit hlen hd (fun H1 locs1 hP1 hD1 hS1 => kk H1 locs1 ls hP1 hD1 hS1 hl)
theorem n_tsOut {cs sl : Nat} {g : Gx} {K : Kx} {cc : ByteArray} {own : String} {n fr lo : Nat} {ws : va_W} {pc : Nat} {lv : List (Nat × Value)} {rest : List Value} {dfl l9 h9 z : Int} {offs : Array Int} {len : Nat} (tgt : Nat) (C : CX g K cc own n fr lo) (hz : I32 z) (hd : decode cc pc = .ok (.tableswitch dfl l9 h9 offs, len)) (h : z < l9 ∨ h9 < z) (ht : (pc : Int) + dfl = (tgt : Int)) (k : GN g K cs sl ws tgt lv rest) : GN g K cs sl ws pc lv (.int (iZ z) :: rest) := by
  obtain ⟨p, e, R, s, m, args, below, meth, c, A, Q, nL⟩ := K
  obtain ⟨hx, hb, hml, hown, hts, hK, hlk, hA, hfr, hlo, hN, hn⟩ := C
  intro H locs ls hP hD hS hl
  exact lv_tableOut hx hb hd (by rw [iZ_toInt hz]; exact h) ht (k H locs ls hP hD hS hl)
theorem n_tsIn {cs sl : Nat} {g : Gx} {K : Kx} {cc : ByteArray} {own : String} {n fr lo : Nat} {ws : va_W} {pc : Nat} {lv : List (Nat × Value)} {rest : List Value} {dfl l9 h9 z off : Int} {offs : Array Int} {len : Nat} (tgt : Nat) (C : CX g K cc own n fr lo) (hz : I32 z) (hd : decode cc pc = .ok (.tableswitch dfl l9 h9 offs, len)) (h1 : ¬ z < l9) (h2 : ¬ h9 < z) (ho : offs[(z - l9).toNat]? = some off) (ht : (pc : Int) + off = (tgt : Int)) (k : GN g K cs sl ws tgt lv rest) : GN g K cs sl ws pc lv (.int (iZ z) :: rest) := by
  obtain ⟨p, e, R, s, m, args, below, meth, c, A, Q, nL⟩ := K
  obtain ⟨hx, hb, hml, hown, hts, hK, hlk, hA, hfr, hlo, hN, hn⟩ := C
  intro H locs ls hP hD hS hl
  exact lv_tableIn hx hb hd (by rw [iZ_toInt hz]; exact h1) (by rw [iZ_toInt hz]; exact h2) (by rw [iZ_toInt hz]; exact ho) ht (k H locs ls hP hD hS hl)
theorem n_sub {g : Gx} {K : Kx} {cs sl : Nat} {ws ws' : va_W} {pc : Nat} {lv : List (Nat × Value)} {st : List Value} (is : List Nat) (h1 : is.filterMap (fun i => ws[i]?) = ws') (hn : va_nd is = true) (h2 : is.map (fun i => ws[i]?) = ws'.map some) (k : GN g K cs sl ws' pc lv st) : GN g K cs sl ws pc lv st := by
  obtain ⟨p, e, R, s, m, args, below, meth, c, A, Q, nL⟩ := K
  intro H locs ls hP hD hS hl
  exact k H locs ls (hP.sub is h1) (hD.sub is hn h2) hS hl
theorem n_wide {g : Gx} {K : Kx} {cs sl : Nat} (cs' sl' : Nat) {ws : va_W} {pc : Nat} {lv : List (Nat × Value)} {st : List Value} (h1 : cs ≤ cs') (h2 : sl ≤ sl') (k : GN g K cs' sl' ws pc lv st) : GN g K cs sl ws pc lv st := by
  obtain ⟨p, e, R, s, m, args, below, meth, c, A, Q, nL⟩ := K
  intro H locs ls hP hD hS hl
  exact W.widen h1 h2 (k H locs ls hP hD hS hl)
theorem n_objInit {g : Gx} {K : Kx} {cs sl : Nat} {cc : ByteArray} {own : String} {n fr lo : Nat} {ws : va_W} {pc : Nat} {lv : List (Nat × Value)} {rest : List Value} {idx a : Nat} (C : CX g K cc own n fr lo) (hm : Cond.methodLink own idx objectInit ∈ BIG) (h1 : 1 ≤ fr) (h2 : (rest.map fun v => v.category).sum + 12 ≤ lo) (hd : decode cc pc = .ok (.invokespecial idx, 3)) (k : GN g K cs sl ws (pc + 3) lv rest) : GN g K cs sl ws pc lv (.ref a :: rest) := by
  obtain ⟨p, e, R, s, m, args, below, meth, c, A, Q, nL⟩ := K
  obtain ⟨hx, hb, hml, hown, hts, hK, hlk, hA, hfr, hlo, hN, hn⟩ := C
  intro H locs ls hP hD hS hl
  subst hfr; subst hlo
  refine W.objInit hx hb hown (hts _ hm) (hts _ wi_objectInit) (hts _ wc_objectInit) rfl (by rw [hml]; exact hl.1) rfl hd h1 (by show 2 * 0 + _ + 12 ≤ _; omega) ?_
  exact k H locs ls hP hD hS hl
theorem ra_int {s : State} {c1 c2 : ClassId} (h1 : va_RA s c1 .int) (h2 : va_RA s c2 .int) : c1 = c2 := by
  have a : s.vm.findClass ("[" ++ FieldType.int.toString) = some c1 := h1
  have b : s.vm.findClass ("[" ++ FieldType.int.toString) = some c2 := h2
  exact Option.some.inj (a.symm.trans b)
theorem ra_long {s : State} {c1 c2 : ClassId} (h1 : va_RA s c1 .long) (h2 : va_RA s c2 .long) : c1 = c2 := by
  have a : s.vm.findClass ("[" ++ FieldType.long.toString) = some c1 := h1
  have b : s.vm.findClass ("[" ++ FieldType.long.toString) = some c2 := h2
  exact Option.some.inj (a.symm.trans b)
theorem ra_obj {s : State} {C : String} {c1 c2 : ClassId} (h1 : va_RA s c1 (.object C)) (h2 : va_RA s c2 (.object C)) : c1 = c2 := by
  obtain ⟨_, _, _, _, _, a⟩ := h1
  obtain ⟨_, _, _, _, _, b⟩ := h2
  exact Option.some.inj (a.symm.trans b)
theorem n_newi {g : Gx} {K : Kx} {cs sl : Nat} {cc : ByteArray} {own : String} {n fr lo : Nat} {ws : va_W} {pc : Nat} {lv : List (Nat × Value)} {rest : List Value} {mc ms : Nat} (N : Nat) {z : Int} (C : CX g K cc own n fr lo) (hR : RM K mc ms) (hz : z = (N : Int)) (hN : N ≤ 1000) (h1 : cs + 1 ≤ mc) (h2 : sl + N ≤ ms) (hd : decode cc pc = .ok (.newarray .int, 2)) (k : ∀ a : Nat, GN g K (cs + 1) (sl + N) (ws ++ [(a, .inl (g.2.2.1, N, .inl (fun _ => iZ 0)))]) (pc + 2) lv (.ref a :: rest)) : GN g K cs sl ws pc lv (.int (iZ z) :: rest) := by
  obtain ⟨p, e, R, s, m, args, below, meth, c, A, Q, nL⟩ := K
  obtain ⟨hx, hb, hml, hown, hts, hK, hlk, hA, hfr, hlo, hN, hn⟩ := C
  intro H locs ls hP hD hS hl
  obtain ⟨r1, r2⟩ := hR
  have hI : I32 z := by unfold I32; omega
  refine va_newa (atype := .int) (ty := .int) (N' := N) (a0 := (N, .inl (fun _ => iZ 0))) hx hb (hts _ war_int) rfl hK hP hD hS hA (fun cA => rfl) ?_ ?_ ?_ (by rw [r1]; exact h1) (by rw [r2]; exact h2) hd (fun a cA H1 hK1 hP1 hD1 hS1 => ?_)
  · rw [show (0 : Int32) = iZ 0 from rfl, iZ_lt hI I32_0]; omega
  · show (iZ z).toInt.toNat = N
    rw [iZ_toInt hI]; omega
  · show N * 4 ≤ 536870912
    omega
  · obtain rfl : cA = g.2.2.1 := ra_int (hK1.2 3 _ rfl).2 (hK1.2 0 _ rfl).2
    exact k a H1 locs ls hP1 hD1 hS1 hl
theorem n_newl {g : Gx} {K : Kx} {cs sl : Nat} {cc : ByteArray} {own : String} {n fr lo : Nat} {ws : va_W} {pc : Nat} {lv : List (Nat × Value)} {rest : List Value} {mc ms : Nat} (N : Nat) {z : Int} (C : CX g K cc own n fr lo) (hR : RM K mc ms) (hz : z = (N : Int)) (hN : N ≤ 1000) (h1 : cs + 1 ≤ mc) (h2 : sl + N ≤ ms) (hd : decode cc pc = .ok (.newarray .long, 2)) (k : ∀ a : Nat, GN g K (cs + 1) (sl + N) (ws ++ [(a, .inl (g.2.2.2.1, N, .inr (.inl (fun _ => lZ 0))))]) (pc + 2) lv (.ref a :: rest)) : GN g K cs sl ws pc lv (.int (iZ z) :: rest) := by
  obtain ⟨p, e, R, s, m, args, below, meth, c, A, Q, nL⟩ := K
  obtain ⟨hx, hb, hml, hown, hts, hK, hlk, hA, hfr, hlo, hN, hn⟩ := C
  intro H locs ls hP hD hS hl
  obtain ⟨r1, r2⟩ := hR
  have hI : I32 z := by unfold I32; omega
  refine va_newa (atype := .long) (ty := .long) (N' := N) (a0 := (N, .inr (.inl (fun _ => lZ 0)))) hx hb (hts _ war_long) rfl hK hP hD hS hA (fun cA => rfl) ?_ ?_ ?_ (by rw [r1]; exact h1) (by rw [r2]; exact h2) hd (fun a cA H1 hK1 hP1 hD1 hS1 => ?_)
  · rw [show (0 : Int32) = iZ 0 from rfl, iZ_lt hI I32_0]; omega
  · show (iZ z).toInt.toNat = N
    rw [iZ_toInt hI]; omega
  · show N * 8 ≤ 536870912
    omega
  · obtain rfl : cA = g.2.2.2.1 := ra_long (hK1.2 3 _ rfl).2 (hK1.2 1 _ rfl).2
    exact k a H1 locs ls hP1 hD1 hS1 hl
theorem n_newq {g : Gx} {K : Kx} {cs sl : Nat} {cc : ByteArray} {own : String} {n fr lo : Nat} {ws : va_W} {pc : Nat} {lv : List (Nat × Value)} {rest : List Value} {mc ms idx : Nat} (N : Nat) {z : Int} (C : CX g K cc own n fr lo) (hR : RM K mc ms) (hI9 : INI K) (hcl : Cond.classLink own idx RX4 ∈ BIG) (hz : z = (N : Int)) (hN : N ≤ 1000) (h1 : cs + 1 ≤ mc) (h2 : sl + N ≤ ms) (hd : decode cc pc = .ok (.anewarray idx, 3)) (k : ∀ a : Nat, GN g K (cs + 1) (sl + N) (ws ++ [(a, .inl (g.2.2.2.2, N, .inr (.inr (.inr (.inr (fun _ => none))))))]) (pc + 3) lv (.ref a :: rest)) : GN g K cs sl ws pc lv (.int (iZ z) :: rest) := by
  obtain ⟨p, e, R, s, m, args, below, meth, c, A, Q, nL⟩ := K
  obtain ⟨hx, hb, hml, hown, hts, hK, hlk, hA, hfr, hlo, hN, hn⟩ := C
  intro H locs ls hP hD hS hl
  obtain ⟨r1, r2⟩ := hR
  obtain ⟨_, hao⟩ := hI9
  have hI : I32 z := by unfold I32; omega
  refine va_newq (C := RX4) (N' := N) hx hb hown (hts _ hcl) hao hK hP hD hS hA ?_ ?_ (by omega) (by rw [r1]; exact h1) (by rw [r2]; exact h2) hd (fun a cA H1 hK1 hP1 hD1 hS1 => ?_)
  · rw [show (0 : Int32) = iZ 0 from rfl, iZ_lt hI I32_0]; omega
  · show (iZ z).toInt.toNat = N
    rw [iZ_toInt hI]; omega
  · obtain rfl : cA = g.2.2.2.2 := ra_obj (hK1.2 3 _ rfl).2 (hK1.2 2 _ rfl).2
    exact k a H1 locs ls hP1 hD1 hS1 hl
theorem n_putF {g : Gx} {K : Kx} {cs sl : Nat} {cc : ByteArray} {own : String} {n fr lo : Nat} {ws : va_W} {pc : Nat} {lv : List (Nat × Value)} {rest : List Value} (C : CX g K cc own n fr lo) (hI9 : INI K) (q0 ci k : Nat) {a N idx : Nat} {fs : List Value} {C0 : String} {T0 : u_T} {v : Value} {ws' : va_W} (ty0 : Nat → FieldType) (he : ws[q0]? = some (a, .inr (ci, fs))) (hc : vwCl[ci]? = some (C0, T0, N)) (hk : k < N) (hin : ∀ w ∈ u_ws C0 T0 N, w ∈ BIG) (hty : ∀ k, k < N → parseFieldDescriptor (T0 k).2.2.1 = some (ty0 k)) (hnm : ∀ a, a < N → ∀ b, b < N → a ≠ b → (T0 a).2.1 ≠ (T0 b).2.1) (hlink : Cond.fieldLink own idx (T0 k).1 (T0 k).2.1 (T0 k).2.2.1 ∈ BIG) (hfin : (T0 k).2.2.2 = true) (hdecl : (T0 k).1 = own) (hn9 : narrow (ty0 k) v = v) (hfit : fits (ty0 k) v = true) (hlen : k < fs.length) (hset : ws.set q0 (a, .inr (ci, fs.set k v)) = ws') (hd : decode cc pc = .ok (.putfield idx, 3)) (kk : GN g K cs sl ws' (pc + 3) lv rest) : GN g K cs sl ws pc lv (v :: .ref a :: rest) := by
  obtain ⟨p, e, R, s, m, args, below, meth, c, A, Q, nL⟩ := K
  obtain ⟨hx, hb, hml, hown, hts, hK, hlk, hA, hfr, hlo, hN, hn⟩ := C
  intro H locs ls hP hD hS hl
  subst hset
  exact va_putF hx hb hts hin ty0 hty hnm hown hK hP hD hS q0 he hc k hk (hts _ hlink) (fun _ h9 => h9) hfin hI9.1 hdecl (hty k hk) hn9 hfit hlen hd (fun H1 locs1 hP1 hD1 hS1 => kk H1 locs1 ls hP1 hD1 hS1 hl)
theorem n_new {g : Gx} {K : Kx} {cs sl : Nat} {cc : ByteArray} {own : String} {n fr lo : Nat} {ws : va_W} {pc : Nat} {lv : List (Nat × Value)} {rest : List Value} {mc ms idx : Nat} (ci : Nat) {N : Nat} {C0 : String} {T0 : u_T} (fs : List Value) (C : CX g K cc own n fr lo) (hR : RM K mc ms) (ty0 : Nat → FieldType) (hin : ∀ w ∈ u_ws C0 T0 N, w ∈ BIG) (hty : ∀ k, k < N → parseFieldDescriptor (T0 k).2.2.1 = some (ty0 k)) (hcl : Cond.classLink own idx C0 ∈ BIG) (hit : Cond.instantiable C0 N ∈ BIG) (hini : Cond.initialized C0 ∈ BIG) (hc : vwCl[ci]? = some (C0, T0, N)) (hfs : ∀ j, j < N → defaultValue (ty0 j) = vp_V fs j) (h1 : cs + 1 ≤ mc) (h2 : sl + N ≤ ms) (hd : decode cc pc = .ok (.new idx, 3)) (k : ∀ a : Nat, GN g K (cs + 1) (sl + N) (ws ++ [(a, .inr (ci, fs))]) (pc + 3) lv (.ref a :: rest)) : GN g K cs sl ws pc lv rest := by
  obtain ⟨p, e, R, s, m, args, below, meth, c, A, Q, nL⟩ := K
  obtain ⟨hx, hb, hml, hown, hts, hK, hlk, hA, hfr, hlo, hN, hn⟩ := C
  intro H locs ls hP hD hS hl
  obtain ⟨r1, r2⟩ := hR
  exact va_new hx hb hts hin ty0 hty hown (hts _ hcl) (hts _ hit) (hts _ hini) hK hP hD hS hA hc hfs (by rw [r1]; exact h1) (by rw [r2]; exact h2) hd (fun a H1 hP1 hD1 hS1 => k a H1 locs ls hP1 hD1 hS1 hl)
/-- a contract of a method that makes cells -/
def MN {S : Type} (g : Gx) (y : MethodName) (cc : ByteArray) (maxL : Nat) (fr lo mc ms : Nat) (ws : va_W) (as : List Value) (Wf : S → va_W) (P : S → Prop) : Prop :=
  ∀ sz : Nat, Met g.1 y (Cond.code y cc maxL none :: BIG) ({ frames := fr, cells := mc, slots := ms, locals := lo }) (va_Pc as (fun U => U.heap.size = sz ∧ va_P g.2.1 vwCl ws U.heap ∧ va_K g.2.1 vwCl (tysG g) U ∧ va_D (fun _ => True) ws ∧ NWs U ∧ va_AO "StandingArch$Sheet" U)) (QV g (va_A ws sz) Wf (pV P)) mc ms (va_A ws sz)
def RN {S : Type} (g : Gx) (K : Kx) (mc ms : Nat) (Wf : S → va_W) (P : S → Prop) : Prop := match K with
  | (_, _, _, s, _, args, below, meth, _, A, Q, _) => meth.sig.returnType = none ∧ Q = MQ below (QV g A Wf (pV P)) args s mc ms A
theorem MN_intro {S : Type} {g : Gx} {y : MethodName} {cc : ByteArray} {maxL : Nat} {fr lo mc ms : Nat} {ws : va_W} {as : List Value} {Wf : S → va_W} {P : S → Prop} {own : String} (hown : y.cls = own) (hini : y.name = "<init>") (hy : plainName y.cls = true) (hlen : (lg_sl as).length ≤ maxL)
    (body : ∀ K : Kx, CX g K cc own maxL fr lo → RM K mc ms → INI K → RN g K mc ms Wf P → GN g K 0 0 ws 0 (lv_args 0 as) []) : MN g y cc maxL fr lo mc ms ws as Wf P := by
  intro sz
  refine Met.ofW (cc := cc) (maxL := maxL) (ret := none) hy rfl ?_
  intro p e s m args below meth c s₁ B hml hv
  obtain ⟨rfl, hsz, hP, hK, hD0, hN, hao⟩ := hv
  have hts := atoms_spec (ws := Cond.code y cc maxL none :: BIG) B.pre
  subst hsz
  subst hown
  have h := body (p, e, (headSpec (Cond.code y cc maxL none :: BIG) ({ frames := fr, cells := mc, slots := ms, locals := lo })).room, s, m, as.toArray, below, meth, c, va_A ws s.heap.size, MQ below (QV g (va_A ws s.heap.size) Wf (pV P)) as.toArray s mc ms (va_A ws s.heap.size), maxL)
    ⟨B.exec, B.bytes, hml, findClass_of_methodNamed B.named, fun w hw => hts w (List.mem_cons_of_mem _ hw), hK, B.notSynchronized, fun q h => Or.inr h, rfl, rfl, hN, rfl⟩ ⟨rfl, rfl⟩ ⟨((name_of_methodNamed B.named B.method).1).trans hini, hao⟩ ⟨B.returns, rfl⟩
  rw [lg_entry_eq]
  exact h s.heap [] _ hP (hD0.self) va_S.rf (lv_entry as hlen)
theorem n_vret {g : Gx} {K : Kx} {cc : ByteArray} {own : String} {n fr lo : Nat} {pc : Nat} {lv : List (Nat × Value)} {S : Type} {mc ms : Nat} {Wf : S → va_W} {P : S → Prop} (u : S) (C : CX g K cc own n fr lo) (T : RN g K mc ms Wf P) (hd : decode cc pc = .ok (.return_, 1)) (h : P u) : GN g K mc ms (Wf u) pc lv [] := by
  obtain ⟨p, e, R, s, m, args, below, meth, c, A, Q, nL⟩ := K
  obtain ⟨hx, hb, hml, hown, hts, hK, hlk, hA, hfr, hlo, hN, hn⟩ := C
  intro H locs ls hP hD hS hl
  obtain ⟨hr, rfl⟩ := T
  exact W.vret hx hb hr (fun t ht _ => ⟨⟨_, u, rfl, ⟨rfl, h⟩, by rw [ht]; exact hP, hD⟩, hS.F ht⟩) hS.2.2 hd hlk
theorem blind_MN {g : Gx} {as : List Value} {sz : Nat} {ws : va_W} : FrameBlind (va_Pc as (fun U => U.heap.size = sz ∧ va_P g.2.1 vwCl ws U.heap ∧ va_K g.2.1 vwCl (tysG g) U ∧ va_D (fun _ => True) ws ∧ NWs U ∧ va_AO "StandingArch$Sheet" U)) := by
  intro a U gg mk q
  obtain ⟨q0, q1, qP, qK, qD, qN, qa⟩ := q
  exact ⟨q0, q1, qP, va_K.moved (u := U) (U := U.calling gg mk a) (Vm.Alike.refl U.vm) qK, qD, NWs.same (s := U) (U := U.calling gg mk a) rfl qN, va_AO.moved (u := U) (U := U.calling gg mk a) (Vm.Alike.refl U.vm) qa⟩
/-- a world in two parts -/
theorem P_app {g : Gx} {w1 w2 : va_W} {H : Heap} (h : va_P g.2.1 vwCl (w1 ++ w2) H) : va_P g.2.1 vwCl w1 H ∧ va_P g.2.1 vwCl w2 H := by
  refine ⟨fun k q hk => h k q ?_, fun k q hk => h (w1.length + k) q ?_⟩
  · rw [List.getElem?_append_left (List.getElem?_eq_some_iff.mp hk).1]; exact hk
  · rw [List.getElem?_append_right (by omega), show w1.length + k - w1.length = k by omega]; exact hk
theorem D_app {A : Nat → Prop} {w1 w2 : va_W} (h : va_D A (w1 ++ w2)) : va_D A w1 ∧ va_D A w2 ∧ ∀ (i j : Nat) (p q : Nat × va_E), w1[i]? = some p → w2[j]? = some q → p.1 ≠ q.1 := by
  have l1 : ∀ (k : Nat) (q : Nat × va_E), w1[k]? = some q → k < w1.length ∧ (w1 ++ w2)[k]? = some q := fun k q hk => ⟨(List.getElem?_eq_some_iff.mp hk).1, by rw [List.getElem?_append_left (List.getElem?_eq_some_iff.mp hk).1]; exact hk⟩
  have l2 : ∀ (k : Nat) (q : Nat × va_E), w2[k]? = some q → (w1 ++ w2)[w1.length + k]? = some q := fun k q hk => by rw [List.getElem?_append_right (by omega), show w1.length + k - w1.length = k by omega]; exact hk
  refine ⟨⟨fun i j p q h1 h2 e => h.1 i j p q (l1 i p h1).2 (l1 j q h2).2 e, fun k q hk => h.2 k q (l1 k q hk).2⟩, ⟨fun i j p q h1 h2 e => ?_, fun k q hk => h.2 _ q (l2 k q hk)⟩, fun i j p q h1 h2 e => ?_⟩
  · have := h.1 _ _ p q (l2 i p h1) (l2 j q h2) e
    omega
  · have := h.1 _ _ p q (l1 i p h1).2 (l2 j q h2) e
    have := (l1 i p h1).1
    omega
/-- behind a call: the caller's other cells stay, the callee's world comes behind them -/
theorem back_w {g : Gx} {A : Nat → Prop} {wc wr w1 : va_W} {H H1 : Heap} (hPr : va_P g.2.1 vwCl wr H) (hDr : va_D A wr) (hx : ∀ (i j : Nat) (p q : Nat × va_E), wr[i]? = some p → wc[j]? = some q → p.1 ≠ q.1) (hk : ∀ q : Nat, q < H.size → ¬ va_A wc H.size q → H1[q]? = H[q]?) (hF : ∀ q, va_A wc H.size q → A q) (hP1 : va_P g.2.1 vwCl w1 H1) (hD1 : va_D (va_A wc H.size) w1) : va_P g.2.1 vwCl (wr ++ w1) H1 ∧ va_D A (wr ++ w1) := by
  have out : ∀ (i : Nat) (p : Nat × va_E), wr[i]? = some p → p.1 < H.size ∧ ¬ va_A wc H.size p.1 := by
    intro i p hp
    have hlt := (hPr i p hp).lt
    refine ⟨hlt, ?_⟩
    rintro (⟨j, e, h⟩ | h)
    · exact hx i j p (p.1, e) hp h rfl
    · omega
  refine ⟨va_P.app (va_P.kept hPr (fun k q hq => hk q.1 (out k q hq).1 (out k q hq).2)) hP1, va_D.app hDr (hD1.weaken (fun _ _ _ h => hF _ h)) (fun i j p q hp hq e => ?_)⟩
  have := hD1.2 j q hq
  rw [← e] at this
  exact (out i p hp).2 this
/-- a call of an instance method that makes no cell, over the first part of the world; that part comes back behind the rest -/
theorem n_call {g : Gx} {K : Kx} {cs sl : Nat} {cc : ByteArray} {own : String} {n fr lo : Nat} {pc : Nat} {lv : List (Nat × Value)} {rest : List Value} (C : CX g K cc own n fr lo) {mc ms : Nat} (hR : RM K mc ms) (h9 : cs ≤ mc ∧ sl ≤ ms) {S : Type} {y : MethodName} {cc' : ByteArray} {maxL' fr' lo' : Nat} {ret' : Option FieldType} {b idx N : Nat} {as st : List Value} {wc wr : va_W} {Wf : S → va_W} {post : Option Value → S → Prop} {C0 : String} {T0 : u_T} {fs : List Value}
    (M : MC g y cc' maxL' ret' fr' lo' wc (.ref b :: as) Wf post) (hG : GoodIn BIG (wsV own idx C0 y (Cond.code y cc' maxL' ret' :: BIG))) (hd0 : y.cls = C0 ∧ y.cls ≠ "java/lang/invoke/MethodHandle" ∧ y.cls ≠ "java/lang/invoke/VarHandle" ∧ (parseMethodDescriptor y.desc).map (fun d => d.parameters.length) = some as.length) (hr : fr' + 1 ≤ fr ∧ 8 + (maxL' + 11) + lo' ≤ lo) (q0 ci : Nat) (he : wc[q0]? = some (b, .inr (ci, fs))) (hc : vwCl[ci]? = some (C0, T0, N)) (hst : st = as.reverse ++ .ref b :: rest) (hW : (rest.map fun v => v.category).sum ≤ 8) (hd : decode cc pc = .ok (.invokevirtual idx, 3))
    (k : ∀ (v : Option Value) (u : S), post v u → GN g K cs sl (wr ++ Wf u) (pc + 3) lv (v.toList ++ rest)) : GN g K cs sl (wc ++ wr) pc lv st := by
  obtain ⟨p, e, R, s, m, args, below, meth, c, A, Q, nL⟩ := K
  obtain ⟨hx, hb, hml, hown, hts, hK, hlk, hA, hfr, hlo, hN, hn⟩ := C
  intro H locs ls hP hD hS hl
  obtain ⟨r1, r2⟩ := hR
  subst hfr; subst hlo
  obtain ⟨hPc, hPr⟩ := P_app hP
  obtain ⟨hDc, hDr, hx9⟩ := D_app hD
  have hF : ∀ q, va_A wc H.size q → A q := by
    rintro q (⟨k, e, h⟩ | h)
    · exact hDc.2 k (q, e) h
    · exact hA q (Nat.le_trans hS.1 h)
  refine w_call (va_runV (As := as) (rest := rest) ⟨hx, hb, hml, hown, hts⟩ (M H.size) (cwV as.length hts hG rfl rfl rfl hd0 hr) ⟨blind_MC, va_recv hK hPc hc he, fun U hU hW => ⟨rfl, by rw [hU], by rw [hU]; exact hPc, va_K.moved hW.alike hK, hDc.weaken (fun _ _ _ _ => trivial), hN.warm hW⟩⟩ rfl rfl hl.1 hst (cats hW) hd ⟨by rw [r1]; exact h9.1, by rw [r2]; exact h9.2⟩) hS (fun q _ h => hF q h) hF (fun v u H1 locs1 hp hP1 hD1 hz1 hk1 hS1 => ?_)
  obtain ⟨f1, f2⟩ := back_w hPr hDr (fun i j p q a b e => hx9 j i q p b a e.symm) hk1 hF hP1 hD1
  exact k v u hp H1 locs1 ls f1 f2 hS1 hl
/-- the same of a constructor, over the last part of the world -/
theorem n_callI {g : Gx} {K : Kx} {cs sl : Nat} {cc : ByteArray} {own : String} {n fr lo : Nat} {pc : Nat} {lv : List (Nat × Value)} {rest : List Value} (C : CX g K cc own n fr lo) {mc ms : Nat} (hR : RM K mc ms) (hI9 : INI K) {S : Type} {y : MethodName} {cc' : ByteArray} {maxL' fr' lo' mc' ms' : Nat} {b idx : Nat} {as st : List Value} {wc wr : va_W} {Wf : S → va_W} {P : S → Prop}
    (M : MN g y cc' maxL' fr' lo' mc' ms' wc (.ref b :: as) Wf P) (hl9 : Cond.methodLink own idx y ∈ BIG) (hi9 : Cond.instanceMethod y ∈ BIG) (hcd : Cond.code y cc' maxL' none ∈ BIG) (hini : Cond.initialized y.cls ∈ BIG) (hnm : y.name = "<init>") (hd0 : y.cls ≠ "java/lang/invoke/MethodHandle" ∧ y.cls ≠ "java/lang/invoke/VarHandle" ∧ (parseMethodDescriptor y.desc).map (fun d => d.parameters.length) = some as.length) (hr : fr' + 1 ≤ fr ∧ 8 + (maxL' + 11) + lo' ≤ lo) (h9 : cs + mc' ≤ mc ∧ sl + ms' ≤ ms) (hst : st = as.reverse ++ .ref b :: rest) (hW : (rest.map fun v => v.category).sum ≤ 8) (hd : decode cc pc = .ok (.invokespecial idx, 3))
    (k : ∀ u : S, P u → GN g K (cs + mc') (sl + ms') (wr ++ Wf u) (pc + 3) lv rest) : GN g K cs sl (wr ++ wc) pc lv st := by
  obtain ⟨p, e, R, s, m, args, below, meth, c, A, Q, nL⟩ := K
  obtain ⟨hx, hb, hml, hown, hts, hK, hlk, hA, hfr, hlo, hN, hn⟩ := C
  intro H locs ls hP hD hS hl
  obtain ⟨r1, r2⟩ := hR
  obtain ⟨-, hao⟩ := hI9
  subst hfr; subst hlo
  obtain ⟨hPr, hPc⟩ := P_app hP
  obtain ⟨hDr, hDc, hx9⟩ := D_app hD
  have hF : ∀ q, va_A wc H.size q → A q := by
    rintro q (⟨k, e, h⟩ | h)
    · exact hDc.2 k (q, e) h
    · exact hA q (Nat.le_trans hS.1 h)
  have cw : CallB R s args own idx y cc' maxL' none (Cond.code y cc' maxL' none :: BIG) ({ frames := fr', cells := mc', slots := ms', locals := lo' }) mc' ms' as.length ∧ y.name = "<init>" ∧ (Cond.instanceMethod y).before args s = true := by
    refine ⟨⟨rfl, rfl, hr.1, hr.2, pay_in hts (good_code hcd), List.mem_cons_self, hts _ hcd, hts _ hini, ⟨hd0.1, hd0.2.1⟩, fun sig h => ?_, hts _ hl9⟩, hnm, hts _ hi9⟩
    have h5 := hd0.2.2
    rw [h] at h5
    exact (Option.some.inj h5).symm
  refine w_call (va_runI (As := as) (rest := rest) ⟨hx, hb, hml, hown, hts⟩ (M H.size) cw ⟨blind_MN, fun U hU hW => ⟨rfl, by rw [hU], by rw [hU]; exact hPc, va_K.moved hW.alike hK, hDc.weaken (fun _ _ _ _ => trivial), hN.warm hW, va_AO.moved hW.alike hao⟩⟩ rfl rfl hl.1 hst (cats hW) hd ⟨by rw [r1]; exact h9.1, by rw [r2]; exact h9.2⟩) hS (fun q _ h => hF q h) hF (fun v u H1 locs1 hp hP1 hD1 hz1 hk1 hS1 => ?_)
  obtain ⟨rfl, hp⟩ := hp
  obtain ⟨f1, f2⟩ := back_w hPr hDr hx9 hk1 hF hP1 hD1
  exact k u hp H1 locs1 ls f1 f2 hS1 hl
theorem n_callIN {g : Gx} {K : Kx} {cs sl : Nat} {cc : ByteArray} {own : String} {n fr lo : Nat} {pc : Nat} {lv : List (Nat × Value)} {rest : List Value} (C : CX g K cc own n fr lo) {mc ms : Nat} (hR : RM K mc ms) (hI9 : INI K) {S : Type} {y : MethodName} {cc' : ByteArray} {maxL' fr' lo' mc' ms' : Nat} {b idx : Nat} {host : String} {as st : List Value} {wc wr : va_W} {Wf : S → va_W} {P : S → Prop}
    (M : MN g y cc' maxL' fr' lo' mc' ms' wc (.ref b :: as) Wf P) (hl9 : Cond.methodLinkNest own idx y host ∈ nwL) (hi9 : Cond.instanceMethod y ∈ BIG) (hcd : Cond.code y cc' maxL' none ∈ BIG) (hini : Cond.initialized y.cls ∈ BIG) (hnm : y.name = "<init>") (hd0 : y.cls ≠ "java/lang/invoke/MethodHandle" ∧ y.cls ≠ "java/lang/invoke/VarHandle" ∧ (parseMethodDescriptor y.desc).map (fun d => d.parameters.length) = some as.length) (hr : fr' + 1 ≤ fr ∧ 8 + (maxL' + 11) + lo' ≤ lo) (h9 : cs + mc' ≤ mc ∧ sl + ms' ≤ ms) (hst : st = as.reverse ++ .ref b :: rest) (hW : (rest.map fun v => v.category).sum ≤ 8) (hd : decode cc pc = .ok (.invokespecial idx, 3))
    (k : ∀ u : S, P u → GN g K (cs + mc') (sl + ms') (wr ++ Wf u) (pc + 3) lv rest) : GN g K cs sl (wr ++ wc) pc lv st := by
  obtain ⟨p, e, R, s, m, args, below, meth, c, A, Q, nL⟩ := K
  obtain ⟨hx, hb, hml, hown, hts, hK, hlk, hA, hfr, hlo, hN, hn⟩ := C
  intro H locs ls hP hD hS hl
  obtain ⟨r1, r2⟩ := hR
  obtain ⟨-, hao⟩ := hI9
  subst hfr; subst hlo
  obtain ⟨hPr, hPc⟩ := P_app hP
  obtain ⟨hDr, hDc, hx9⟩ := D_app hD
  have hF : ∀ q, va_A wc H.size q → A q := by
    rintro q (⟨k, e, h⟩ | h)
    · exact hDc.2 k (q, e) h
    · exact hA q (Nat.le_trans hS.1 h)
  refine w_call (va_runIN (As := as) (rest := rest) ⟨hx, hb, hml, hown, hts⟩ (M H.size) ⟨va_cnB as.length hts (good_code hcd) rfl rfl rfl (hN _ hl9) (hts _ hini) hd0 hr, hnm, hts _ hi9⟩ ⟨blind_MN, fun U hU hW => ⟨rfl, by rw [hU], by rw [hU]; exact hPc, va_K.moved hW.alike hK, hDc.weaken (fun _ _ _ _ => trivial), hN.warm hW, va_AO.moved hW.alike hao⟩⟩ rfl rfl hl.1 hst (cats hW) hd ⟨by rw [r1]; exact h9.1, by rw [r2]; exact h9.2⟩) hS (fun q _ h => hF q h) hF (fun v u H1 locs1 hp hP1 hD1 hz1 hk1 hS1 => ?_)
  obtain ⟨rfl, hp⟩ := hp
  obtain ⟨f1, f2⟩ := back_w hPr hDr hx9 hk1 hF hP1 hD1
  exact k u hp H1 locs1 ls f1 f2 hS1 hl
/-- the class's own cell and its Arch -/
abbrev WA (g : Gx) (q : Nat → Nat) (σ : Nat → Nat → Int) : va_W := WD 7 (EC g q) q σ
theorem gf_X0_9A {g : Gx} {K : Kx} {cc : ByteArray} {n fr lo : Nat} {q : Nat → Nat} {σ : Nat → Nat → Int} {pc : Nat} {lv : List (Nat × Value)} {rest : List Value} (C : CX g K cc RX0 n fr lo) (hd : decode cc pc = .ok (.getfield 9, 3)) (kk : GJ g K (WA g q σ) (pc + 3) lv (.ref (q 2) :: rest)) : GJ g K (WA g q σ) pc lv (.ref (q 1) :: rest) :=
  g_get (fs := [.int (iZ ((σ 1) 0)), .ref (q 2), .ref (q 3), .ref (q 4), .ref (q 5), .ref (q 6)]) C 1 0 1 (WD_get (by decide)) rfl (by decide) inlX0 wf_X0_9 rfl hd kk
theorem gf_X0_15A {g : Gx} {K : Kx} {cc : ByteArray} {n fr lo : Nat} {q : Nat → Nat} {σ : Nat → Nat → Int} {pc : Nat} {lv : List (Nat × Value)} {rest : List Value} (C : CX g K cc RX0 n fr lo) (hd : decode cc pc = .ok (.getfield 15, 3)) (kk : GJ g K (WA g q σ) (pc + 3) lv (.ref (q 3) :: rest)) : GJ g K (WA g q σ) pc lv (.ref (q 1) :: rest) :=
  g_get (fs := [.int (iZ ((σ 1) 0)), .ref (q 2), .ref (q 3), .ref (q 4), .ref (q 5), .ref (q 6)]) C 1 0 2 (WD_get (by decide)) rfl (by decide) inlX0 wf_X0_15 rfl hd kk
theorem gf_X0_18A {g : Gx} {K : Kx} {cc : ByteArray} {n fr lo : Nat} {q : Nat → Nat} {σ : Nat → Nat → Int} {pc : Nat} {lv : List (Nat × Value)} {rest : List Value} (C : CX g K cc RX0 n fr lo) (hd : decode cc pc = .ok (.getfield 18, 3)) (kk : GJ g K (WA g q σ) (pc + 3) lv (.ref (q 4) :: rest)) : GJ g K (WA g q σ) pc lv (.ref (q 1) :: rest) :=
  g_get (fs := [.int (iZ ((σ 1) 0)), .ref (q 2), .ref (q 3), .ref (q 4), .ref (q 5), .ref (q 6)]) C 1 0 3 (WD_get (by decide)) rfl (by decide) inlX0 wf_X0_18 rfl hd kk
theorem gf_X0_21A {g : Gx} {K : Kx} {cc : ByteArray} {n fr lo : Nat} {q : Nat → Nat} {σ : Nat → Nat → Int} {pc : Nat} {lv : List (Nat × Value)} {rest : List Value} (C : CX g K cc RX0 n fr lo) (hd : decode cc pc = .ok (.getfield 21, 3)) (kk : GJ g K (WA g q σ) (pc + 3) lv (.ref (q 5) :: rest)) : GJ g K (WA g q σ) pc lv (.ref (q 1) :: rest) :=
  g_get (fs := [.int (iZ ((σ 1) 0)), .ref (q 2), .ref (q 3), .ref (q 4), .ref (q 5), .ref (q 6)]) C 1 0 4 (WD_get (by decide)) rfl (by decide) inlX0 wf_X0_21 rfl hd kk
theorem pf_X0_27A {g : Gx} {K : Kx} {cc : ByteArray} {n fr lo : Nat} {q : Nat → Nat} {σ : Nat → Nat → Int} {pc : Nat} {lv : List (Nat × Value)} {rest : List Value} {z : Int} (C : CX g K cc RX0 n fr lo) (hd : decode cc pc = .ok (.putfield 27, 3)) (kk : GJ g K (WA g q (up σ 1 0 z)) (pc + 3) lv rest) : GJ g K (WA g q σ) pc lv (.int (iZ z) :: .ref (q 1) :: rest) :=
  g_put (fs := [.int (iZ ((σ 1) 0)), .ref (q 2), .ref (q 3), .ref (q 4), .ref (q 5), .ref (q 6)]) C 1 0 0 tyX0 (WD_get (by decide)) rfl (by decide) inlX0 tyX0_ok nmX0 wf_X0_27 rfl rfl rfl (Nat.le_of_ble_eq_true rfl) (WD_set (updI (σ 1) 0 z)) hd kk
set_option maxHeartbeats 4000000 in
set_option maxRecDepth 20000 in
theorem lp_X0_renewA {g : Gx} {K : Kx} {q : Nat → Nat} {σ : Nat → Nat → Int} {nn : Nat} {na : Int} (hna : na = (nn : Int)) (hn2 : 2 ≤ nn) (hn6 : nn ≤ 6) (C : CX g K cX0_renew RX0 3 0 0) (T : RT g K none (fun u => WA g q u) (pV (fun u => (¬ (2 ≤ na ∧ na ≤ 6) ∧ u = σ) ∨ ((2 ≤ na ∧ na ≤ 6) ∧ u = bgS σ 1 0 2 3 4 5 na.toNat)))) : ∀ (d i : Nat), i ≤ nn + 1 → nn + 1 < i + d → ∀ τ : Nat → Nat → Int, BgI σ τ 1 0 2 3 4 5 nn i → GJ g K (WA g q τ) 19 [(0, .ref (q 1)), (1, .int (iZ (nn : Int))), (2, .int (iZ (i : Int)))] [] := by
  intro d
  induction d with
  | zero => intro i k1 k2; omega
  | succ d ih =>
    intro i k1 k2 τ hB
    refine g_iload_n 2 C rfl dX0_renew_19 rfl ?_
    refine g_iload_n 1 C rfl dX0_renew_20 rfl ?_
    refine g_icmp_gt 63 C (by unfold I32; omega) (by unfold I32; omega) dX0_renew_21 (by decide) (fun h1 => ?_) (fun h1 => ?_)
    · refine g_vret (u := τ) C T dX0_renew_63 ?_
      obtain rfl : i = nn + 1 := by omega
      refine ⟨rfl, Or.inr ⟨by omega, ?_⟩⟩
      rw [show na.toNat = nn by omega]
      exact bg_end (by decide) hB
    · refine g_aload_n 0 C rfl dX0_renew_24 rfl ?_
      refine gf_X0_9A C dX0_renew_25 ?_
      refine g_iload_n 2 C rfl dX0_renew_28 rfl ?_
      refine g_bipush C dX0_renew_29 (by decide) ?_
      refine g_iload_n 2 C rfl dX0_renew_31 rfl ?_
      refine g_imul C dX0_renew_32 ?_
      refine g_iload_n 1 C rfl dX0_renew_33 rfl ?_
      refine g_idiv C dX0_renew_34 (by unfold I32; omega) (by unfold I32; omega) (by omega) ?_
      refine g_iast C 2 i (by decide) (fun _ => rfl) (by omega) (by omega) (by decide) dX0_renew_35 ?_
      refine g_aload_n 0 C rfl dX0_renew_36 rfl ?_
      refine gf_X0_15A C dX0_renew_37 ?_
      refine g_iload_n 2 C rfl dX0_renew_40 rfl ?_
      refine g_iconst C dX0_renew_41 ?_
      refine g_iast C 3 i (by decide) (fun _ => rfl) (by omega) (by omega) (by decide) dX0_renew_42 ?_
      refine g_aload_n 0 C rfl dX0_renew_43 rfl ?_
      refine gf_X0_18A C dX0_renew_44 ?_
      refine g_iload_n 2 C rfl dX0_renew_47 rfl ?_
      refine g_iconst C dX0_renew_48 ?_
      refine g_iast C 4 i (by decide) (fun _ => rfl) (by omega) (by omega) (by decide) dX0_renew_49 ?_
      refine g_aload_n 0 C rfl dX0_renew_50 rfl ?_
      refine gf_X0_21A C dX0_renew_51 ?_
      refine g_iload_n 2 C rfl dX0_renew_54 rfl ?_
      refine g_iconst C dX0_renew_55 ?_
      refine g_iast C 5 i (by decide) (fun _ => rfl) (by omega) (by omega) (by decide) dX0_renew_56 ?_
      refine g_iinc (lv' := [(0, .ref (q 1)), (1, .int (iZ (nn : Int))), (2, .int (iZ ((i : Int) + 1)))]) 2 [1, 2, 0] C rfl dX0_renew_57 (by decide) rfl ?_
      refine g_goto 19 C dX0_renew_60 (by decide) ?_
      refine ih (i + 1) (by omega) (by omega) _ ⟨fun c h0 h1 h2 h3 h4 => by rw [up_c h4, up_c h3, up_c h2, up_c h1]; exact hB.1 c h0 h1 h2 h3 h4, fun k hk => hB.2.1 k hk, hB.2.2.1, bgX_s (by omega) hB.2.2.2.1, bgC_s hB.2.2.2.2.1, bgC_s hB.2.2.2.2.2.1, bgC_s hB.2.2.2.2.2.2⟩
set_option maxHeartbeats 4000000 in
set_option maxRecDepth 20000 in
theorem c_X0_renewA (g : Gx) {q : Nat → Nat} {σ : Nat → Nat → Int} {na : Int} (h_na : I32 na) : MC g yX0_renew cX0_renew 3 (none) 0 0 (WA g q σ) [.ref (q 1), .int (iZ na)] (fun u => WA g q u) (pV (fun u => (¬ (2 ≤ na ∧ na ≤ 6) ∧ u = σ) ∨ ((2 ≤ na ∧ na ≤ 6) ∧ u = bgS σ 1 0 2 3 4 5 na.toNat))) := by
  refine MC_intro (own := RX0) rfl (by decide) (Nat.le_of_ble_eq_true rfl) (fun K C T => ?_)
  show GJ g K (WA g q σ) 0 [(0, .ref (q 1)), (1, .int (iZ na))] []
  refine g_iload_n 1 C rfl dX0_renew_0 rfl ?_
  refine g_iconst C dX0_renew_1 ?_
  refine g_icmp_lt 11 C h_na (by unfold I32 at *; omega) dX0_renew_2 (by decide) (fun h1 => ?_) (fun h1 => ?_)
  · refine g_vret (u := σ) C T dX0_renew_11 ?_
    exact ⟨rfl, Or.inl ⟨by omega, rfl⟩⟩
  · refine g_iload_n 1 C rfl dX0_renew_5 rfl ?_
    refine g_bipush C dX0_renew_6 (by decide) ?_
    refine g_icmp_le 12 C h_na (by unfold I32 at *; omega) dX0_renew_8 (by decide) (fun h2 => ?_) (fun h2 => ?_)
    · refine g_aload_n 0 C rfl dX0_renew_12 rfl ?_
      refine g_iload_n 1 C rfl dX0_renew_13 rfl ?_
      refine pf_X0_27A C dX0_renew_14 ?_
      refine g_iconst C dX0_renew_17 ?_
      refine g_istore_n (lv' := [(0, .ref (q 1)), (1, .int (iZ na)), (2, .int (iZ 0))]) [1, 2, 0] C dX0_renew_18 rfl (by decide) rfl ?_
      have hna : na = ((na.toNat : Nat) : Int) := by omega
      have h9 := lp_X0_renewA (g := g) (q := q) (σ := σ) hna (by omega) (by omega) C T (na.toNat + 2) 0 (by omega) (by omega) (up σ 1 0 (na.toNat : Int)) ⟨fun c h0 _ _ _ _ => up_c h0, fun k hk => up_k hk, up_s _ _ _ _, fun j => by rw [if_neg (by omega), up_c (by decide)], fun j => by rw [if_neg (by omega), up_c (by decide)], fun j => by rw [if_neg (by omega), up_c (by decide)], fun j => by rw [if_neg (by omega), up_c (by decide)]⟩
      rw [← hna] at h9
      exact h9
    · refine g_vret (u := σ) C T dX0_renew_11 ?_
      exact ⟨rfl, Or.inl ⟨by omega, rfl⟩⟩
