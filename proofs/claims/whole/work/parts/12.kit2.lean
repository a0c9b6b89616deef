theorem g_iconst {g : Gx} {K : Kx} {cc : ByteArray} {own : String} {n fr lo : Nat} {ws : va_W} {pc : Nat} {lv : List (Nat × Value)} {rest : List Value} {z : Int} (C : CX g K cc own n fr lo) (hd : decode cc pc = .ok (.iconst z, 1)) (k : GJ g K ws (pc + 1) lv (.int (iZ z) :: rest)) : GJ g K ws pc lv rest := by
  obtain ⟨p, e, R, s, m, args, below, meth, c, A, Q, nL⟩ := K
  obtain ⟨hx, hb, hml, hown, hts, hK, hlk, hA, hfr, hlo, hN, hn⟩ := C
  intro H locs ls hP hD hS hl
  exact lv_iconst hx hb hd rfl (k H locs ls hP hD hS hl)

theorem g_bipush {g : Gx} {K : Kx} {cc : ByteArray} {own : String} {n fr lo : Nat} {ws : va_W} {pc : Nat} {lv : List (Nat × Value)} {rest : List Value} {z : Int} (C : CX g K cc own n fr lo) (hd : decode cc pc = .ok (.bipush z, 2)) (hz : (Int8.ofInt z).toInt32 = iZ z) (k : GJ g K ws (pc + 2) lv (.int (iZ z) :: rest)) : GJ g K ws pc lv rest := by
  obtain ⟨p, e, R, s, m, args, below, meth, c, A, Q, nL⟩ := K
  obtain ⟨hx, hb, hml, hown, hts, hK, hlk, hA, hfr, hlo, hN, hn⟩ := C
  intro H locs ls hP hD hS hl
  exact lv_bipush hx hb hd hz (k H locs ls hP hD hS hl)

theorem g_sipush {g : Gx} {K : Kx} {cc : ByteArray} {own : String} {n fr lo : Nat} {ws : va_W} {pc : Nat} {lv : List (Nat × Value)} {rest : List Value} {z : Int} (C : CX g K cc own n fr lo) (hd : decode cc pc = .ok (.sipush z, 3)) (hz : (Int16.ofInt z).toInt32 = iZ z) (k : GJ g K ws (pc + 3) lv (.int (iZ z) :: rest)) : GJ g K ws pc lv rest := by
  obtain ⟨p, e, R, s, m, args, below, meth, c, A, Q, nL⟩ := K
  obtain ⟨hx, hb, hml, hown, hts, hK, hlk, hA, hfr, hlo, hN, hn⟩ := C
  intro H locs ls hP hD hS hl
  exact lv_sipush hx hb hd hz (k H locs ls hP hD hS hl)

theorem g_lconst {g : Gx} {K : Kx} {cc : ByteArray} {own : String} {n fr lo : Nat} {ws : va_W} {pc : Nat} {lv : List (Nat × Value)} {rest : List Value} {j : Fin 2} (z : Int) (C : CX g K cc own n fr lo) (hd : decode cc pc = .ok (.lconst j, 1)) (hz : Int64.ofNat (j : Nat) = lZ z) (k : GJ g K ws (pc + 1) lv (.long (lZ z) :: rest)) : GJ g K ws pc lv rest := by
  obtain ⟨p, e, R, s, m, args, below, meth, c, A, Q, nL⟩ := K
  obtain ⟨hx, hb, hml, hown, hts, hK, hlk, hA, hfr, hlo, hN, hn⟩ := C
  intro H locs ls hP hD hS hl
  exact lv_lconst hx hb hd hz (k H locs ls hP hD hS hl)

theorem g_ldc {g : Gx} {K : Kx} {cc : ByteArray} {own : String} {n fr lo : Nat} {ws : va_W} {pc : Nat} {lv : List (Nat × Value)} {rest : List Value} {idx : Nat} {v : Int32} (z : Int) (C : CX g K cc own n fr lo) (hm : Cond.constant own idx v ∈ BIG) (hz : v = iZ z) (hd : decode cc pc = .ok (.ldc idx, 2)) (k : GJ g K ws (pc + 2) lv (.int (iZ z) :: rest)) : GJ g K ws pc lv rest := by
  obtain ⟨p, e, R, s, m, args, below, meth, c, A, Q, nL⟩ := K
  obtain ⟨hx, hb, hml, hown, hts, hK, hlk, hA, hfr, hlo, hN, hn⟩ := C
  intro H locs ls hP hD hS hl
  exact lv_ldc hx hb hown (hts _ hm) hd (hz ▸ k H locs ls hP hD hS hl)

theorem g_ldc2 {g : Gx} {K : Kx} {cc : ByteArray} {own : String} {n fr lo : Nat} {ws : va_W} {pc : Nat} {lv : List (Nat × Value)} {rest : List Value} {idx : Nat} {v : Int64} (z : Int) (C : CX g K cc own n fr lo) (hm : Cond.constantLong own idx v ∈ BIG) (hz : v = lZ z) (hd : decode cc pc = .ok (.ldc2_w idx, 3)) (k : GJ g K ws (pc + 3) lv (.long (lZ z) :: rest)) : GJ g K ws pc lv rest := by
  obtain ⟨p, e, R, s, m, args, below, meth, c, A, Q, nL⟩ := K
  obtain ⟨hx, hb, hml, hown, hts, hK, hlk, hA, hfr, hlo, hN, hn⟩ := C
  intro H locs ls hP hD hS hl
  exact lv_ldc2 hx hb hown (hts _ hm) hd (hz ▸ k H locs ls hP hD hS hl)

theorem g_iload_n {g : Gx} {K : Kx} {cc : ByteArray} {own : String} {n fr lo : Nat} {ws : va_W} {pc : Nat} {lv : List (Nat × Value)} {rest : List Value} {j : Fin 4} {i : Nat} {x : Int32} (k : Nat) (C : CX g K cc own n fr lo) (hk : lv[k]? = some (i, .int x)) (hd : decode cc pc = .ok (.iload_n j, 1)) (hi : (j : Nat) = i) (kk : GJ g K ws (pc + 1) lv (.int x :: rest)) : GJ g K ws pc lv rest := by
  obtain ⟨p, e, R, s, m, args, below, meth, c, A, Q, nL⟩ := K
  obtain ⟨hx, hb, hml, hown, hts, hK, hlk, hA, hfr, hlo, hN, hn⟩ := C
  intro H locs ls hP hD hS hl
  exact lv_iload_n hx hb hd hi (lv_at hl k hk) (kk H locs ls hP hD hS hl)

theorem g_iload {g : Gx} {K : Kx} {cc : ByteArray} {own : String} {n fr lo : Nat} {ws : va_W} {pc : Nat} {lv : List (Nat × Value)} {rest : List Value} {i : Nat} {x : Int32} (k : Nat) (C : CX g K cc own n fr lo) (hk : lv[k]? = some (i, .int x)) (hd : decode cc pc = .ok (.iload i, 2)) (kk : GJ g K ws (pc + 2) lv (.int x :: rest)) : GJ g K ws pc lv rest := by
  obtain ⟨p, e, R, s, m, args, below, meth, c, A, Q, nL⟩ := K
  obtain ⟨hx, hb, hml, hown, hts, hK, hlk, hA, hfr, hlo, hN, hn⟩ := C
  intro H locs ls hP hD hS hl
  exact lv_iload hx hb hd (lv_at hl k hk) (kk H locs ls hP hD hS hl)

theorem g_istore_n {g : Gx} {K : Kx} {cc : ByteArray} {own : String} {n fr lo : Nat} {ws : va_W} {pc : Nat} {lv : List (Nat × Value)} {rest : List Value} {j : Fin 4} {i : Nat} {x : Int32} {lv' : List (Nat × Value)} (ks : List Nat) (C : CX g K cc own n fr lo) (hd : decode cc pc = .ok (.istore_n j, 1)) (hi : (j : Nat) = i) (hn9 : i < n) (hl9 : lv_pick ((i, Value.int x) :: lv.filter (fun q => !(q.1 == i) && !(q.1 + 1 == i && q.2.category == 2))) ks = lv') (kk : GJ g K ws (pc + 1) lv' rest) : GJ g K ws pc lv (.int x :: rest) := by
  obtain ⟨p, e, R, s, m, args, below, meth, c, A, Q, nL⟩ := K
  obtain ⟨hx, hb, hml, hown, hts, hK, hlk, hA, hfr, hlo, hN, hn⟩ := C
  intro H locs ls hP hD hS hl
  subst hn
  exact lv_istore_n hx hb hd hi hl hn9 rfl (fun ls' hl' => kk H locs ls' hP hD hS (lv_sub hl' ks hl9))

theorem g_istore {g : Gx} {K : Kx} {cc : ByteArray} {own : String} {n fr lo : Nat} {ws : va_W} {pc : Nat} {lv : List (Nat × Value)} {rest : List Value} {i : Nat} {x : Int32} {lv' : List (Nat × Value)} (ks : List Nat) (C : CX g K cc own n fr lo) (hd : decode cc pc = .ok (.istore i, 2)) (hn9 : i < n) (hl9 : lv_pick ((i, Value.int x) :: lv.filter (fun q => !(q.1 == i) && !(q.1 + 1 == i && q.2.category == 2))) ks = lv') (kk : GJ g K ws (pc + 2) lv' rest) : GJ g K ws pc lv (.int x :: rest) := by
  obtain ⟨p, e, R, s, m, args, below, meth, c, A, Q, nL⟩ := K
  obtain ⟨hx, hb, hml, hown, hts, hK, hlk, hA, hfr, hlo, hN, hn⟩ := C
  intro H locs ls hP hD hS hl
  subst hn
  exact lv_istore hx hb hd hl hn9 rfl (fun ls' hl' => kk H locs ls' hP hD hS (lv_sub hl' ks hl9))

theorem g_lload_n {g : Gx} {K : Kx} {cc : ByteArray} {own : String} {n fr lo : Nat} {ws : va_W} {pc : Nat} {lv : List (Nat × Value)} {rest : List Value} {j : Fin 4} {i : Nat} {x : Int64} (k : Nat) (C : CX g K cc own n fr lo) (hk : lv[k]? = some (i, .long x)) (hd : decode cc pc = .ok (.lload_n j, 1)) (hi : (j : Nat) = i) (kk : GJ g K ws (pc + 1) lv (.long x :: rest)) : GJ g K ws pc lv rest := by
  obtain ⟨p, e, R, s, m, args, below, meth, c, A, Q, nL⟩ := K
  obtain ⟨hx, hb, hml, hown, hts, hK, hlk, hA, hfr, hlo, hN, hn⟩ := C
  intro H locs ls hP hD hS hl
  exact lv_lload_n hx hb hd hi (lv_at hl k hk) (kk H locs ls hP hD hS hl)

theorem g_lload {g : Gx} {K : Kx} {cc : ByteArray} {own : String} {n fr lo : Nat} {ws : va_W} {pc : Nat} {lv : List (Nat × Value)} {rest : List Value} {i : Nat} {x : Int64} (k : Nat) (C : CX g K cc own n fr lo) (hk : lv[k]? = some (i, .long x)) (hd : decode cc pc = .ok (.lload i, 2)) (kk : GJ g K ws (pc + 2) lv (.long x :: rest)) : GJ g K ws pc lv rest := by
  obtain ⟨p, e, R, s, m, args, below, meth, c, A, Q, nL⟩ := K
  obtain ⟨hx, hb, hml, hown, hts, hK, hlk, hA, hfr, hlo, hN, hn⟩ := C
  intro H locs ls hP hD hS hl
  exact lv_lload hx hb hd (lv_at hl k hk) (kk H locs ls hP hD hS hl)

theorem g_lstore_n {g : Gx} {K : Kx} {cc : ByteArray} {own : String} {n fr lo : Nat} {ws : va_W} {pc : Nat} {lv : List (Nat × Value)} {rest : List Value} {j : Fin 4} {i : Nat} {x : Int64} {lv' : List (Nat × Value)} (ks : List Nat) (C : CX g K cc own n fr lo) (hd : decode cc pc = .ok (.lstore_n j, 1)) (hi : (j : Nat) = i) (hn9 : i + 1 < n) (hl9 : lv_pick ((i, Value.long x) :: lv.filter (fun q => !(q.1 == i) && (!(q.1 == i + 1) && !(q.1 + 1 == i && q.2.category == 2)))) ks = lv') (kk : GJ g K ws (pc + 1) lv' rest) : GJ g K ws pc lv (.long x :: rest) := by
  obtain ⟨p, e, R, s, m, args, below, meth, c, A, Q, nL⟩ := K
  obtain ⟨hx, hb, hml, hown, hts, hK, hlk, hA, hfr, hlo, hN, hn⟩ := C
  intro H locs ls hP hD hS hl
  subst hn
  exact lv_lstore_n hx hb hd hi hl hn9 rfl (fun ls' hl' => kk H locs ls' hP hD hS (lv_sub hl' ks hl9))

theorem g_lstore {g : Gx} {K : Kx} {cc : ByteArray} {own : String} {n fr lo : Nat} {ws : va_W} {pc : Nat} {lv : List (Nat × Value)} {rest : List Value} {i : Nat} {x : Int64} {lv' : List (Nat × Value)} (ks : List Nat) (C : CX g K cc own n fr lo) (hd : decode cc pc = .ok (.lstore i, 2)) (hn9 : i + 1 < n) (hl9 : lv_pick ((i, Value.long x) :: lv.filter (fun q => !(q.1 == i) && (!(q.1 == i + 1) && !(q.1 + 1 == i && q.2.category == 2)))) ks = lv') (kk : GJ g K ws (pc + 2) lv' rest) : GJ g K ws pc lv (.long x :: rest) := by
  obtain ⟨p, e, R, s, m, args, below, meth, c, A, Q, nL⟩ := K
  obtain ⟨hx, hb, hml, hown, hts, hK, hlk, hA, hfr, hlo, hN, hn⟩ := C
  intro H locs ls hP hD hS hl
  subst hn
  exact lv_lstore hx hb hd hl hn9 rfl (fun ls' hl' => kk H locs ls' hP hD hS (lv_sub hl' ks hl9))

theorem g_aload_n {g : Gx} {K : Kx} {cc : ByteArray} {own : String} {n fr lo : Nat} {ws : va_W} {pc : Nat} {lv : List (Nat × Value)} {rest : List Value} {j : Fin 4} {i : Nat} {x : Nat} (k : Nat) (C : CX g K cc own n fr lo) (hk : lv[k]? = some (i, .ref x)) (hd : decode cc pc = .ok (.aload_n j, 1)) (hi : (j : Nat) = i) (kk : GJ g K ws (pc + 1) lv (.ref x :: rest)) : GJ g K ws pc lv rest := by
  obtain ⟨p, e, R, s, m, args, below, meth, c, A, Q, nL⟩ := K
  obtain ⟨hx, hb, hml, hown, hts, hK, hlk, hA, hfr, hlo, hN, hn⟩ := C
  intro H locs ls hP hD hS hl
  exact lv_aload_n hx hb hd hi (lv_at hl k hk) (kk H locs ls hP hD hS hl)

theorem g_aload {g : Gx} {K : Kx} {cc : ByteArray} {own : String} {n fr lo : Nat} {ws : va_W} {pc : Nat} {lv : List (Nat × Value)} {rest : List Value} {i : Nat} {x : Nat} (k : Nat) (C : CX g K cc own n fr lo) (hk : lv[k]? = some (i, .ref x)) (hd : decode cc pc = .ok (.aload i, 2)) (kk : GJ g K ws (pc + 2) lv (.ref x :: rest)) : GJ g K ws pc lv rest := by
  obtain ⟨p, e, R, s, m, args, below, meth, c, A, Q, nL⟩ := K
  obtain ⟨hx, hb, hml, hown, hts, hK, hlk, hA, hfr, hlo, hN, hn⟩ := C
  intro H locs ls hP hD hS hl
  exact lv_aload hx hb hd (lv_at hl k hk) (kk H locs ls hP hD hS hl)

theorem g_astore_n {g : Gx} {K : Kx} {cc : ByteArray} {own : String} {n fr lo : Nat} {ws : va_W} {pc : Nat} {lv : List (Nat × Value)} {rest : List Value} {j : Fin 4} {i : Nat} {x : Nat} {lv' : List (Nat × Value)} (ks : List Nat) (C : CX g K cc own n fr lo) (hd : decode cc pc = .ok (.astore_n j, 1)) (hi : (j : Nat) = i) (hn9 : i < n) (hl9 : lv_pick ((i, Value.ref x) :: lv.filter (fun q => !(q.1 == i) && !(q.1 + 1 == i && q.2.category == 2))) ks = lv') (kk : GJ g K ws (pc + 1) lv' rest) : GJ g K ws pc lv (.ref x :: rest) := by
  obtain ⟨p, e, R, s, m, args, below, meth, c, A, Q, nL⟩ := K
  obtain ⟨hx, hb, hml, hown, hts, hK, hlk, hA, hfr, hlo, hN, hn⟩ := C
  intro H locs ls hP hD hS hl
  subst hn
  exact lv_astore_n hx hb hd hi hl hn9 rfl (fun ls' hl' => kk H locs ls' hP hD hS (lv_sub hl' ks hl9))

theorem g_astore {g : Gx} {K : Kx} {cc : ByteArray} {own : String} {n fr lo : Nat} {ws : va_W} {pc : Nat} {lv : List (Nat × Value)} {rest : List Value} {i : Nat} {x : Nat} {lv' : List (Nat × Value)} (ks : List Nat) (C : CX g K cc own n fr lo) (hd : decode cc pc = .ok (.astore i, 2)) (hn9 : i < n) (hl9 : lv_pick ((i, Value.ref x) :: lv.filter (fun q => !(q.1 == i) && !(q.1 + 1 == i && q.2.category == 2))) ks = lv') (kk : GJ g K ws (pc + 2) lv' rest) : GJ g K ws pc lv (.ref x :: rest) := by
  obtain ⟨p, e, R, s, m, args, below, meth, c, A, Q, nL⟩ := K
  obtain ⟨hx, hb, hml, hown, hts, hK, hlk, hA, hfr, hlo, hN, hn⟩ := C
  intro H locs ls hP hD hS hl
  subst hn
  exact lv_astore hx hb hd hl hn9 rfl (fun ls' hl' => kk H locs ls' hP hD hS (lv_sub hl' ks hl9))

theorem g_iinc {g : Gx} {K : Kx} {cc : ByteArray} {own : String} {n fr lo : Nat} {ws : va_W} {pc : Nat} {lv : List (Nat × Value)} {rest : List Value} {i : Nat} {z d : Int} {lv' : List (Nat × Value)} (k : Nat) (ks : List Nat) (C : CX g K cc own n fr lo) (hk : lv[k]? = some (i, .int (iZ z))) (hd : decode cc pc = .ok (.iinc i d, 3)) (hn9 : i < n) (hl9 : lv_pick ((i, Value.int (iZ (z + d))) :: lv.filter (fun q => !(q.1 == i) && !(q.1 + 1 == i && q.2.category == 2))) ks = lv') (kk : GJ g K ws (pc + 3) lv' rest) : GJ g K ws pc lv rest := by
  obtain ⟨p, e, R, s, m, args, below, meth, c, A, Q, nL⟩ := K
  obtain ⟨hx, hb, hml, hown, hts, hK, hlk, hA, hfr, hlo, hN, hn⟩ := C
  intro H locs ls hP hD hS hl
  subst hn
  exact lv_iinc (v := iZ (z + d)) hx hb hd hl hk (iZ_add z d) hn9 rfl (fun ls' hl' => kk H locs ls' hP hD hS (lv_sub hl' ks hl9))

theorem g_lv {g : Gx} {K : Kx} {ws : va_W} {pc : Nat} {lv lv' : List (Nat × Value)} {st : List Value} (ks : List Nat) (h : lv_pick lv ks = lv') (k : GJ g K ws pc lv' st) : GJ g K ws pc lv st := by
  obtain ⟨p, e, R, s, m, args, below, meth, c, A, Q, nL⟩ := K
  intro H locs ls hP hD hS hl
  exact k H locs ls hP hD hS (lv_sub hl ks h)

theorem g_iadd {g : Gx} {K : Kx} {cc : ByteArray} {own : String} {n fr lo : Nat} {ws : va_W} {pc : Nat} {lv : List (Nat × Value)} {rest : List Value} {a b : Int} (C : CX g K cc own n fr lo) (hd : decode cc pc = .ok (.iadd, 1)) (k : GJ g K ws (pc + 1) lv (.int (iZ (a + b)) :: rest)) : GJ g K ws pc lv (.int (iZ b) :: .int (iZ a) :: rest) := by
  obtain ⟨p, e, R, s, m, args, below, meth, c, A, Q, nL⟩ := K
  obtain ⟨hx, hb, hml, hown, hts, hK, hlk, hA, hfr, hlo, hN, hn⟩ := C
  intro H locs ls hP hD hS hl
  refine lv_iadd hx hb hd ?_
  rw [iZ_add]
  exact k H locs ls hP hD hS hl

theorem g_isub {g : Gx} {K : Kx} {cc : ByteArray} {own : String} {n fr lo : Nat} {ws : va_W} {pc : Nat} {lv : List (Nat × Value)} {rest : List Value} {a b : Int} (C : CX g K cc own n fr lo) (hd : decode cc pc = .ok (.isub, 1)) (k : GJ g K ws (pc + 1) lv (.int (iZ (a - b)) :: rest)) : GJ g K ws pc lv (.int (iZ b) :: .int (iZ a) :: rest) := by
  obtain ⟨p, e, R, s, m, args, below, meth, c, A, Q, nL⟩ := K
  obtain ⟨hx, hb, hml, hown, hts, hK, hlk, hA, hfr, hlo, hN, hn⟩ := C
  intro H locs ls hP hD hS hl
  refine lv_isub hx hb hd ?_
  rw [iZ_sub]
  exact k H locs ls hP hD hS hl

theorem g_imul {g : Gx} {K : Kx} {cc : ByteArray} {own : String} {n fr lo : Nat} {ws : va_W} {pc : Nat} {lv : List (Nat × Value)} {rest : List Value} {a b : Int} (C : CX g K cc own n fr lo) (hd : decode cc pc = .ok (.imul, 1)) (k : GJ g K ws (pc + 1) lv (.int (iZ (a * b)) :: rest)) : GJ g K ws pc lv (.int (iZ b) :: .int (iZ a) :: rest) := by
  obtain ⟨p, e, R, s, m, args, below, meth, c, A, Q, nL⟩ := K
  obtain ⟨hx, hb, hml, hown, hts, hK, hlk, hA, hfr, hlo, hN, hn⟩ := C
  intro H locs ls hP hD hS hl
  refine lv_imul hx hb hd ?_
  rw [iZ_mul]
  exact k H locs ls hP hD hS hl

theorem g_ineg {g : Gx} {K : Kx} {cc : ByteArray} {own : String} {n fr lo : Nat} {ws : va_W} {pc : Nat} {lv : List (Nat × Value)} {rest : List Value} {a : Int} (C : CX g K cc own n fr lo) (hd : decode cc pc = .ok (.ineg, 1)) (k : GJ g K ws (pc + 1) lv (.int (iZ (-a)) :: rest)) : GJ g K ws pc lv (.int (iZ a) :: rest) := by
  obtain ⟨p, e, R, s, m, args, below, meth, c, A, Q, nL⟩ := K
  obtain ⟨hx, hb, hml, hown, hts, hK, hlk, hA, hfr, hlo, hN, hn⟩ := C
  intro H locs ls hP hD hS hl
  refine lv_ineg hx hb hd ?_
  rw [iZ_neg]
  exact k H locs ls hP hD hS hl

theorem g_idiv {g : Gx} {K : Kx} {cc : ByteArray} {own : String} {n fr lo : Nat} {ws : va_W} {pc : Nat} {lv : List (Nat × Value)} {rest : List Value} {a b : Int} (C : CX g K cc own n fr lo) (hd : decode cc pc = .ok (.idiv, 1)) (ha : I32 a) (hb9 : I32 b) (hne : b ≠ 0) (k : GJ g K ws (pc + 1) lv (.int (iZ (a.tdiv b)) :: rest)) : GJ g K ws pc lv (.int (iZ b) :: .int (iZ a) :: rest) := by
  obtain ⟨p, e, R, s, m, args, below, meth, c, A, Q, nL⟩ := K
  obtain ⟨hx, hb, hml, hown, hts, hK, hlk, hA, hfr, hlo, hN, hn⟩ := C
  intro H locs ls hP hD hS hl
  refine lv_idiv hx hb hd (fun q => hne ((iZ_eq hb9 I32_0).mp q)) ?_
  rw [iZ_div ha hb9]
  exact k H locs ls hP hD hS hl

theorem g_irem {g : Gx} {K : Kx} {cc : ByteArray} {own : String} {n fr lo : Nat} {ws : va_W} {pc : Nat} {lv : List (Nat × Value)} {rest : List Value} {a b : Int} (C : CX g K cc own n fr lo) (hd : decode cc pc = .ok (.irem, 1)) (ha : I32 a) (hb9 : I32 b) (hne : b ≠ 0) (k : GJ g K ws (pc + 1) lv (.int (iZ (a.tmod b)) :: rest)) : GJ g K ws pc lv (.int (iZ b) :: .int (iZ a) :: rest) := by
  obtain ⟨p, e, R, s, m, args, below, meth, c, A, Q, nL⟩ := K
  obtain ⟨hx, hb, hml, hown, hts, hK, hlk, hA, hfr, hlo, hN, hn⟩ := C
  intro H locs ls hP hD hS hl
  refine lv_irem hx hb hd (fun q => hne ((iZ_eq hb9 I32_0).mp q)) ?_
  rw [iZ_rem ha hb9]
  exact k H locs ls hP hD hS hl

theorem g_ladd {g : Gx} {K : Kx} {cc : ByteArray} {own : String} {n fr lo : Nat} {ws : va_W} {pc : Nat} {lv : List (Nat × Value)} {rest : List Value} {a b : Int} (C : CX g K cc own n fr lo) (hd : decode cc pc = .ok (.ladd, 1)) (k : GJ g K ws (pc + 1) lv (.long (lZ (a + b)) :: rest)) : GJ g K ws pc lv (.long (lZ b) :: .long (lZ a) :: rest) := by
  obtain ⟨p, e, R, s, m, args, below, meth, c, A, Q, nL⟩ := K
  obtain ⟨hx, hb, hml, hown, hts, hK, hlk, hA, hfr, hlo, hN, hn⟩ := C
  intro H locs ls hP hD hS hl
  refine lv_ladd hx hb hd ?_
  rw [lZ_add]
  exact k H locs ls hP hD hS hl

theorem g_lsub {g : Gx} {K : Kx} {cc : ByteArray} {own : String} {n fr lo : Nat} {ws : va_W} {pc : Nat} {lv : List (Nat × Value)} {rest : List Value} {a b : Int} (C : CX g K cc own n fr lo) (hd : decode cc pc = .ok (.lsub, 1)) (k : GJ g K ws (pc + 1) lv (.long (lZ (a - b)) :: rest)) : GJ g K ws pc lv (.long (lZ b) :: .long (lZ a) :: rest) := by
  obtain ⟨p, e, R, s, m, args, below, meth, c, A, Q, nL⟩ := K
  obtain ⟨hx, hb, hml, hown, hts, hK, hlk, hA, hfr, hlo, hN, hn⟩ := C
  intro H locs ls hP hD hS hl
  refine lv_lsub hx hb hd ?_
  rw [lZ_sub]
  exact k H locs ls hP hD hS hl

theorem g_lmul {g : Gx} {K : Kx} {cc : ByteArray} {own : String} {n fr lo : Nat} {ws : va_W} {pc : Nat} {lv : List (Nat × Value)} {rest : List Value} {a b : Int} (C : CX g K cc own n fr lo) (hd : decode cc pc = .ok (.lmul, 1)) (k : GJ g K ws (pc + 1) lv (.long (lZ (a * b)) :: rest)) : GJ g K ws pc lv (.long (lZ b) :: .long (lZ a) :: rest) := by
  obtain ⟨p, e, R, s, m, args, below, meth, c, A, Q, nL⟩ := K
  obtain ⟨hx, hb, hml, hown, hts, hK, hlk, hA, hfr, hlo, hN, hn⟩ := C
  intro H locs ls hP hD hS hl
  refine lv_lmul hx hb hd ?_
  rw [lZ_mul]
  exact k H locs ls hP hD hS hl

theorem g_lneg {g : Gx} {K : Kx} {cc : ByteArray} {own : String} {n fr lo : Nat} {ws : va_W} {pc : Nat} {lv : List (Nat × Value)} {rest : List Value} {a : Int} (C : CX g K cc own n fr lo) (hd : decode cc pc = .ok (.lneg, 1)) (k : GJ g K ws (pc + 1) lv (.long (lZ (-a)) :: rest)) : GJ g K ws pc lv (.long (lZ a) :: rest) := by
  obtain ⟨p, e, R, s, m, args, below, meth, c, A, Q, nL⟩ := K
  obtain ⟨hx, hb, hml, hown, hts, hK, hlk, hA, hfr, hlo, hN, hn⟩ := C
  intro H locs ls hP hD hS hl
  refine lv_lneg hx hb hd ?_
  rw [lZ_neg]
  exact k H locs ls hP hD hS hl

theorem g_ldiv {g : Gx} {K : Kx} {cc : ByteArray} {own : String} {n fr lo : Nat} {ws : va_W} {pc : Nat} {lv : List (Nat × Value)} {rest : List Value} {a b : Int} (C : CX g K cc own n fr lo) (hd : decode cc pc = .ok (.ldiv, 1)) (ha : I64 a) (hb9 : I64 b) (hne : b ≠ 0) (k : GJ g K ws (pc + 1) lv (.long (lZ (a.tdiv b)) :: rest)) : GJ g K ws pc lv (.long (lZ b) :: .long (lZ a) :: rest) := by
  obtain ⟨p, e, R, s, m, args, below, meth, c, A, Q, nL⟩ := K
  obtain ⟨hx, hb, hml, hown, hts, hK, hlk, hA, hfr, hlo, hN, hn⟩ := C
  intro H locs ls hP hD hS hl
  refine lv_ldiv hx hb hd (fun q => hne ((lZ_eq hb9 I64_0).mp q)) ?_
  rw [lZ_div ha hb9]
  exact k H locs ls hP hD hS hl

theorem g_lrem {g : Gx} {K : Kx} {cc : ByteArray} {own : String} {n fr lo : Nat} {ws : va_W} {pc : Nat} {lv : List (Nat × Value)} {rest : List Value} {a b : Int} (C : CX g K cc own n fr lo) (hd : decode cc pc = .ok (.lrem, 1)) (ha : I64 a) (hb9 : I64 b) (hne : b ≠ 0) (k : GJ g K ws (pc + 1) lv (.long (lZ (a.tmod b)) :: rest)) : GJ g K ws pc lv (.long (lZ b) :: .long (lZ a) :: rest) := by
  obtain ⟨p, e, R, s, m, args, below, meth, c, A, Q, nL⟩ := K
  obtain ⟨hx, hb, hml, hown, hts, hK, hlk, hA, hfr, hlo, hN, hn⟩ := C
  intro H locs ls hP hD hS hl
  refine lv_lrem hx hb hd (fun q => hne ((lZ_eq hb9 I64_0).mp q)) ?_
  rw [lZ_rem ha hb9]
  exact k H locs ls hP hD hS hl

theorem g_i2l {g : Gx} {K : Kx} {cc : ByteArray} {own : String} {n fr lo : Nat} {ws : va_W} {pc : Nat} {lv : List (Nat × Value)} {rest : List Value} {a : Int} (C : CX g K cc own n fr lo) (hd : decode cc pc = .ok (.i2l, 1)) (ha : I32 a) (k : GJ g K ws (pc + 1) lv (.long (lZ a) :: rest)) : GJ g K ws pc lv (.int (iZ a) :: rest) := by
  obtain ⟨p, e, R, s, m, args, below, meth, c, A, Q, nL⟩ := K
  obtain ⟨hx, hb, hml, hown, hts, hK, hlk, hA, hfr, hlo, hN, hn⟩ := C
  intro H locs ls hP hD hS hl
  exact lv_i2l hx hb hd (iZ_l ha) (k H locs ls hP hD hS hl)

theorem g_dup {g : Gx} {K : Kx} {cc : ByteArray} {own : String} {n fr lo : Nat} {ws : va_W} {pc : Nat} {lv : List (Nat × Value)} {rest : List Value} {v : Value} (C : CX g K cc own n fr lo) (hd : decode cc pc = .ok (.dup, 1)) (hv : v.category = 1) (k : GJ g K ws (pc + 1) lv (v :: v :: rest)) : GJ g K ws pc lv (v :: rest) := by
  obtain ⟨p, e, R, s, m, args, below, meth, c, A, Q, nL⟩ := K
  obtain ⟨hx, hb, hml, hown, hts, hK, hlk, hA, hfr, hlo, hN, hn⟩ := C
  intro H locs ls hP hD hS hl
  exact lv_dup hx hb hd hv (k H locs ls hP hD hS hl)

theorem g_pop {g : Gx} {K : Kx} {cc : ByteArray} {own : String} {n fr lo : Nat} {ws : va_W} {pc : Nat} {lv : List (Nat × Value)} {rest : List Value} {v : Value} (C : CX g K cc own n fr lo) (hd : decode cc pc = .ok (.pop, 1)) (hv : v.category = 1) (k : GJ g K ws (pc + 1) lv rest) : GJ g K ws pc lv (v :: rest) := by
  obtain ⟨p, e, R, s, m, args, below, meth, c, A, Q, nL⟩ := K
  obtain ⟨hx, hb, hml, hown, hts, hK, hlk, hA, hfr, hlo, hN, hn⟩ := C
  intro H locs ls hP hD hS hl
  exact lv_pop hx hb hd hv (k H locs ls hP hD hS hl)

theorem g_dup2 {g : Gx} {K : Kx} {cc : ByteArray} {own : String} {n fr lo : Nat} {ws : va_W} {pc : Nat} {lv : List (Nat × Value)} {rest : List Value} {v w : Value} (C : CX g K cc own n fr lo) (hd : decode cc pc = .ok (.dup2, 1)) (hv : v.category = 1) (hw : w.category = 1) (k : GJ g K ws (pc + 1) lv (v :: w :: v :: w :: rest)) : GJ g K ws pc lv (v :: w :: rest) := by
  obtain ⟨p, e, R, s, m, args, below, meth, c, A, Q, nL⟩ := K
  obtain ⟨hx, hb, hml, hown, hts, hK, hlk, hA, hfr, hlo, hN, hn⟩ := C
  intro H locs ls hP hD hS hl
  exact lv_dup2_11 hx hb hd hv hw (k H locs ls hP hD hS hl)

theorem g_goto {g : Gx} {K : Kx} {cc : ByteArray} {own : String} {n fr lo : Nat} {ws : va_W} {pc : Nat} {lv : List (Nat × Value)} {rest : List Value} {off : Int} (tgt : Nat) (C : CX g K cc own n fr lo) (hd : decode cc pc = .ok (.goto off, 3)) (ht : (pc : Int) + off = (tgt : Int)) (k : GJ g K ws tgt lv rest) : GJ g K ws pc lv rest := by
  obtain ⟨p, e, R, s, m, args, below, meth, c, A, Q, nL⟩ := K
  obtain ⟨hx, hb, hml, hown, hts, hK, hlk, hA, hfr, hlo, hN, hn⟩ := C
  intro H locs ls hP hD hS hl
  exact lv_goto hx hb hd ht (k H locs ls hP hD hS hl)

theorem g_icmp_eq {g : Gx} {K : Kx} {cc : ByteArray} {own : String} {n fr lo : Nat} {ws : va_W} {pc : Nat} {lv : List (Nat × Value)} {rest : List Value} {a b off : Int} (tgt : Nat) (C : CX g K cc own n fr lo) (ha : I32 a) (hb9 : I32 b) (hd : decode cc pc = .ok (.if_icmp .eq off, 3)) (ht : (pc : Int) + off = (tgt : Int)) (kt : a = b → GJ g K ws tgt lv rest) (kf : a ≠ b → GJ g K ws (pc + 3) lv rest) : GJ g K ws pc lv (.int (iZ b) :: .int (iZ a) :: rest) := by
  obtain ⟨p, e, R, s, m, args, below, meth, c, A, Q, nL⟩ := K
  obtain ⟨hx, hb, hml, hown, hts, hK, hlk, hA, hfr, hlo, hN, hn⟩ := C
  intro H locs ls hP hD hS hl
  exact lv_icmp_eq hx hb hd ht (fun q => kt ((iZ_eq ha hb9).mp q) H locs ls hP hD hS hl) (fun q => kf (fun r => q ((iZ_eq ha hb9).mpr r)) H locs ls hP hD hS hl)

theorem g_if_eq {g : Gx} {K : Kx} {cc : ByteArray} {own : String} {n fr lo : Nat} {ws : va_W} {pc : Nat} {lv : List (Nat × Value)} {rest : List Value} {a off : Int} (tgt : Nat) (C : CX g K cc own n fr lo) (ha : I32 a) (hd : decode cc pc = .ok (.ifCond .eq off, 3)) (ht : (pc : Int) + off = (tgt : Int)) (kt : a = 0 → GJ g K ws tgt lv rest) (kf : a ≠ 0 → GJ g K ws (pc + 3) lv rest) : GJ g K ws pc lv (.int (iZ a) :: rest) := by
  obtain ⟨p, e, R, s, m, args, below, meth, c, A, Q, nL⟩ := K
  obtain ⟨hx, hb, hml, hown, hts, hK, hlk, hA, hfr, hlo, hN, hn⟩ := C
  intro H locs ls hP hD hS hl
  exact lv_if_eq hx hb hd ht (fun q => kt ((iZ_eq ha I32_0).mp q) H locs ls hP hD hS hl) (fun q => kf (fun r => q ((iZ_eq ha I32_0).mpr r)) H locs ls hP hD hS hl)

theorem g_lcmp_eq {g : Gx} {K : Kx} {cc : ByteArray} {own : String} {n fr lo : Nat} {ws : va_W} {pc : Nat} {lv : List (Nat × Value)} {rest : List Value} {a b off : Int} (tgt : Nat) (C : CX g K cc own n fr lo) (ha : I64 a) (hb9 : I64 b) (hd0 : decode cc pc = .ok (.lcmp, 1)) (hd : decode cc (pc + 1) = .ok (.ifCond .eq off, 3)) (ht : ((pc + 1 : Nat) : Int) + off = (tgt : Int)) (kt : a = b → GJ g K ws tgt lv rest) (kf : a ≠ b → GJ g K ws (pc + 4) lv rest) : GJ g K ws pc lv (.long (lZ b) :: .long (lZ a) :: rest) := by
  obtain ⟨p, e, R, s, m, args, below, meth, c, A, Q, nL⟩ := K
  obtain ⟨hx, hb, hml, hown, hts, hK, hlk, hA, hfr, hlo, hN, hn⟩ := C
  intro H locs ls hP hD hS hl
  refine W.lcmp hx hb hd0 ?_
  exact lv_if_eq hx hb hd ht (fun q => kt (((lg_cmp_eq _ _).trans (lZ_eq ha hb9)).mp q) H locs ls hP hD hS hl) (fun q => kf (fun r => q (((lg_cmp_eq _ _).trans (lZ_eq ha hb9)).mpr r)) H locs ls hP hD hS hl)

theorem g_icmp_ne {g : Gx} {K : Kx} {cc : ByteArray} {own : String} {n fr lo : Nat} {ws : va_W} {pc : Nat} {lv : List (Nat × Value)} {rest : List Value} {a b off : Int} (tgt : Nat) (C : CX g K cc own n fr lo) (ha : I32 a) (hb9 : I32 b) (hd : decode cc pc = .ok (.if_icmp .ne off, 3)) (ht : (pc : Int) + off = (tgt : Int)) (kt : a ≠ b → GJ g K ws tgt lv rest) (kf : a = b → GJ g K ws (pc + 3) lv rest) : GJ g K ws pc lv (.int (iZ b) :: .int (iZ a) :: rest) := by
  obtain ⟨p, e, R, s, m, args, below, meth, c, A, Q, nL⟩ := K
  obtain ⟨hx, hb, hml, hown, hts, hK, hlk, hA, hfr, hlo, hN, hn⟩ := C
  intro H locs ls hP hD hS hl
  exact lv_icmp_ne hx hb hd ht (fun q => kt (fun r => q ((iZ_eq ha hb9).mpr r)) H locs ls hP hD hS hl) (fun q => kf ((iZ_eq ha hb9).mp q) H locs ls hP hD hS hl)

theorem g_if_ne {g : Gx} {K : Kx} {cc : ByteArray} {own : String} {n fr lo : Nat} {ws : va_W} {pc : Nat} {lv : List (Nat × Value)} {rest : List Value} {a off : Int} (tgt : Nat) (C : CX g K cc own n fr lo) (ha : I32 a) (hd : decode cc pc = .ok (.ifCond .ne off, 3)) (ht : (pc : Int) + off = (tgt : Int)) (kt : a ≠ 0 → GJ g K ws tgt lv rest) (kf : a = 0 → GJ g K ws (pc + 3) lv rest) : GJ g K ws pc lv (.int (iZ a) :: rest) := by
  obtain ⟨p, e, R, s, m, args, below, meth, c, A, Q, nL⟩ := K
  obtain ⟨hx, hb, hml, hown, hts, hK, hlk, hA, hfr, hlo, hN, hn⟩ := C
  intro H locs ls hP hD hS hl
  exact lv_if_ne hx hb hd ht (fun q => kt (fun r => q ((iZ_eq ha I32_0).mpr r)) H locs ls hP hD hS hl) (fun q => kf ((iZ_eq ha I32_0).mp q) H locs ls hP hD hS hl)

theorem g_lcmp_ne {g : Gx} {K : Kx} {cc : ByteArray} {own : String} {n fr lo : Nat} {ws : va_W} {pc : Nat} {lv : List (Nat × Value)} {rest : List Value} {a b off : Int} (tgt : Nat) (C : CX g K cc own n fr lo) (ha : I64 a) (hb9 : I64 b) (hd0 : decode cc pc = .ok (.lcmp, 1)) (hd : decode cc (pc + 1) = .ok (.ifCond .ne off, 3)) (ht : ((pc + 1 : Nat) : Int) + off = (tgt : Int)) (kt : a ≠ b → GJ g K ws tgt lv rest) (kf : a = b → GJ g K ws (pc + 4) lv rest) : GJ g K ws pc lv (.long (lZ b) :: .long (lZ a) :: rest) := by
  obtain ⟨p, e, R, s, m, args, below, meth, c, A, Q, nL⟩ := K
  obtain ⟨hx, hb, hml, hown, hts, hK, hlk, hA, hfr, hlo, hN, hn⟩ := C
  intro H locs ls hP hD hS hl
  refine W.lcmp hx hb hd0 ?_
  exact lv_if_ne hx hb hd ht (fun q => kt (fun r => q (((lg_cmp_eq _ _).trans (lZ_eq ha hb9)).mpr r)) H locs ls hP hD hS hl) (fun q => kf (((lg_cmp_eq _ _).trans (lZ_eq ha hb9)).mp q) H locs ls hP hD hS hl)

theorem g_icmp_lt {g : Gx} {K : Kx} {cc : ByteArray} {own : String} {n fr lo : Nat} {ws : va_W} {pc : Nat} {lv : List (Nat × Value)} {rest : List Value} {a b off : Int} (tgt : Nat) (C : CX g K cc own n fr lo) (ha : I32 a) (hb9 : I32 b) (hd : decode cc pc = .ok (.if_icmp .lt off, 3)) (ht : (pc : Int) + off = (tgt : Int)) (kt : a < b → GJ g K ws tgt lv rest) (kf : b ≤ a → GJ g K ws (pc + 3) lv rest) : GJ g K ws pc lv (.int (iZ b) :: .int (iZ a) :: rest) := by
  obtain ⟨p, e, R, s, m, args, below, meth, c, A, Q, nL⟩ := K
  obtain ⟨hx, hb, hml, hown, hts, hK, hlk, hA, hfr, hlo, hN, hn⟩ := C
  intro H locs ls hP hD hS hl
  exact lv_icmp_lt hx hb hd ht (fun q => kt ((iZ_lt ha hb9).mp q) H locs ls hP hD hS hl) (fun q => kf (by have h9 := mt (iZ_lt ha hb9).mpr q; omega) H locs ls hP hD hS hl)

theorem g_if_lt {g : Gx} {K : Kx} {cc : ByteArray} {own : String} {n fr lo : Nat} {ws : va_W} {pc : Nat} {lv : List (Nat × Value)} {rest : List Value} {a off : Int} (tgt : Nat) (C : CX g K cc own n fr lo) (ha : I32 a) (hd : decode cc pc = .ok (.ifCond .lt off, 3)) (ht : (pc : Int) + off = (tgt : Int)) (kt : a < 0 → GJ g K ws tgt lv rest) (kf : 0 ≤ a → GJ g K ws (pc + 3) lv rest) : GJ g K ws pc lv (.int (iZ a) :: rest) := by
  obtain ⟨p, e, R, s, m, args, below, meth, c, A, Q, nL⟩ := K
  obtain ⟨hx, hb, hml, hown, hts, hK, hlk, hA, hfr, hlo, hN, hn⟩ := C
  intro H locs ls hP hD hS hl
  exact lv_if_lt hx hb hd ht (fun q => kt ((iZ_lt ha I32_0).mp q) H locs ls hP hD hS hl) (fun q => kf (by have h9 := mt (iZ_lt ha I32_0).mpr q; omega) H locs ls hP hD hS hl)

theorem g_lcmp_lt {g : Gx} {K : Kx} {cc : ByteArray} {own : String} {n fr lo : Nat} {ws : va_W} {pc : Nat} {lv : List (Nat × Value)} {rest : List Value} {a b off : Int} (tgt : Nat) (C : CX g K cc own n fr lo) (ha : I64 a) (hb9 : I64 b) (hd0 : decode cc pc = .ok (.lcmp, 1)) (hd : decode cc (pc + 1) = .ok (.ifCond .lt off, 3)) (ht : ((pc + 1 : Nat) : Int) + off = (tgt : Int)) (kt : a < b → GJ g K ws tgt lv rest) (kf : b ≤ a → GJ g K ws (pc + 4) lv rest) : GJ g K ws pc lv (.long (lZ b) :: .long (lZ a) :: rest) := by
  obtain ⟨p, e, R, s, m, args, below, meth, c, A, Q, nL⟩ := K
  obtain ⟨hx, hb, hml, hown, hts, hK, hlk, hA, hfr, hlo, hN, hn⟩ := C
  intro H locs ls hP hD hS hl
  refine W.lcmp hx hb hd0 ?_
  exact lv_if_lt hx hb hd ht (fun q => kt (((lg_cmp_lt _ _).trans (lZ_lt ha hb9)).mp q) H locs ls hP hD hS hl) (fun q => kf (by have h9 := mt ((lg_cmp_lt _ _).trans (lZ_lt ha hb9)).mpr q; omega) H locs ls hP hD hS hl)

theorem g_icmp_ge {g : Gx} {K : Kx} {cc : ByteArray} {own : String} {n fr lo : Nat} {ws : va_W} {pc : Nat} {lv : List (Nat × Value)} {rest : List Value} {a b off : Int} (tgt : Nat) (C : CX g K cc own n fr lo) (ha : I32 a) (hb9 : I32 b) (hd : decode cc pc = .ok (.if_icmp .ge off, 3)) (ht : (pc : Int) + off = (tgt : Int)) (kt : b ≤ a → GJ g K ws tgt lv rest) (kf : a < b → GJ g K ws (pc + 3) lv rest) : GJ g K ws pc lv (.int (iZ b) :: .int (iZ a) :: rest) := by
  obtain ⟨p, e, R, s, m, args, below, meth, c, A, Q, nL⟩ := K
  obtain ⟨hx, hb, hml, hown, hts, hK, hlk, hA, hfr, hlo, hN, hn⟩ := C
  intro H locs ls hP hD hS hl
  exact lv_icmp_ge hx hb hd ht (fun q => kt ((iZ_le hb9 ha).mp q) H locs ls hP hD hS hl) (fun q => kf (by have h9 := mt (iZ_le hb9 ha).mpr q; omega) H locs ls hP hD hS hl)

theorem g_if_ge {g : Gx} {K : Kx} {cc : ByteArray} {own : String} {n fr lo : Nat} {ws : va_W} {pc : Nat} {lv : List (Nat × Value)} {rest : List Value} {a off : Int} (tgt : Nat) (C : CX g K cc own n fr lo) (ha : I32 a) (hd : decode cc pc = .ok (.ifCond .ge off, 3)) (ht : (pc : Int) + off = (tgt : Int)) (kt : 0 ≤ a → GJ g K ws tgt lv rest) (kf : a < 0 → GJ g K ws (pc + 3) lv rest) : GJ g K ws pc lv (.int (iZ a) :: rest) := by
  obtain ⟨p, e, R, s, m, args, below, meth, c, A, Q, nL⟩ := K
  obtain ⟨hx, hb, hml, hown, hts, hK, hlk, hA, hfr, hlo, hN, hn⟩ := C
  intro H locs ls hP hD hS hl
  exact lv_if_ge hx hb hd ht (fun q => kt ((iZ_le I32_0 ha).mp q) H locs ls hP hD hS hl) (fun q => kf (by have h9 := mt (iZ_le I32_0 ha).mpr q; omega) H locs ls hP hD hS hl)

theorem g_lcmp_ge {g : Gx} {K : Kx} {cc : ByteArray} {own : String} {n fr lo : Nat} {ws : va_W} {pc : Nat} {lv : List (Nat × Value)} {rest : List Value} {a b off : Int} (tgt : Nat) (C : CX g K cc own n fr lo) (ha : I64 a) (hb9 : I64 b) (hd0 : decode cc pc = .ok (.lcmp, 1)) (hd : decode cc (pc + 1) = .ok (.ifCond .ge off, 3)) (ht : ((pc + 1 : Nat) : Int) + off = (tgt : Int)) (kt : b ≤ a → GJ g K ws tgt lv rest) (kf : a < b → GJ g K ws (pc + 4) lv rest) : GJ g K ws pc lv (.long (lZ b) :: .long (lZ a) :: rest) := by
  obtain ⟨p, e, R, s, m, args, below, meth, c, A, Q, nL⟩ := K
  obtain ⟨hx, hb, hml, hown, hts, hK, hlk, hA, hfr, hlo, hN, hn⟩ := C
  intro H locs ls hP hD hS hl
  refine W.lcmp hx hb hd0 ?_
  exact lv_if_ge hx hb hd ht (fun q => kt (((lg_cmp_ge _ _).trans (lZ_le hb9 ha)).mp q) H locs ls hP hD hS hl) (fun q => kf (by have h9 := mt ((lg_cmp_ge _ _).trans (lZ_le hb9 ha)).mpr q; omega) H locs ls hP hD hS hl)

theorem g_icmp_gt {g : Gx} {K : Kx} {cc : ByteArray} {own : String} {n fr lo : Nat} {ws : va_W} {pc : Nat} {lv : List (Nat × Value)} {rest : List Value} {a b off : Int} (tgt : Nat) (C : CX g K cc own n fr lo) (ha : I32 a) (hb9 : I32 b) (hd : decode cc pc = .ok (.if_icmp .gt off, 3)) (ht : (pc : Int) + off = (tgt : Int)) (kt : b < a → GJ g K ws tgt lv rest) (kf : a ≤ b → GJ g K ws (pc + 3) lv rest) : GJ g K ws pc lv (.int (iZ b) :: .int (iZ a) :: rest) := by
  obtain ⟨p, e, R, s, m, args, below, meth, c, A, Q, nL⟩ := K
  obtain ⟨hx, hb, hml, hown, hts, hK, hlk, hA, hfr, hlo, hN, hn⟩ := C
  intro H locs ls hP hD hS hl
  exact lv_icmp_gt hx hb hd ht (fun q => kt ((iZ_lt hb9 ha).mp q) H locs ls hP hD hS hl) (fun q => kf (by have h9 := mt (iZ_lt hb9 ha).mpr q; omega) H locs ls hP hD hS hl)

theorem g_if_gt {g : Gx} {K : Kx} {cc : ByteArray} {own : String} {n fr lo : Nat} {ws : va_W} {pc : Nat} {lv : List (Nat × Value)} {rest : List Value} {a off : Int} (tgt : Nat) (C : CX g K cc own n fr lo) (ha : I32 a) (hd : decode cc pc = .ok (.ifCond .gt off, 3)) (ht : (pc : Int) + off = (tgt : Int)) (kt : 0 < a → GJ g K ws tgt lv rest) (kf : a ≤ 0 → GJ g K ws (pc + 3) lv rest) : GJ g K ws pc lv (.int (iZ a) :: rest) := by
  obtain ⟨p, e, R, s, m, args, below, meth, c, A, Q, nL⟩ := K
  obtain ⟨hx, hb, hml, hown, hts, hK, hlk, hA, hfr, hlo, hN, hn⟩ := C
  intro H locs ls hP hD hS hl
  exact lv_if_gt hx hb hd ht (fun q => kt ((iZ_lt I32_0 ha).mp q) H locs ls hP hD hS hl) (fun q => kf (by have h9 := mt (iZ_lt I32_0 ha).mpr q; omega) H locs ls hP hD hS hl)

theorem g_lcmp_gt {g : Gx} {K : Kx} {cc : ByteArray} {own : String} {n fr lo : Nat} {ws : va_W} {pc : Nat} {lv : List (Nat × Value)} {rest : List Value} {a b off : Int} (tgt : Nat) (C : CX g K cc own n fr lo) (ha : I64 a) (hb9 : I64 b) (hd0 : decode cc pc = .ok (.lcmp, 1)) (hd : decode cc (pc + 1) = .ok (.ifCond .gt off, 3)) (ht : ((pc + 1 : Nat) : Int) + off = (tgt : Int)) (kt : b < a → GJ g K ws tgt lv rest) (kf : a ≤ b → GJ g K ws (pc + 4) lv rest) : GJ g K ws pc lv (.long (lZ b) :: .long (lZ a) :: rest) := by
  obtain ⟨p, e, R, s, m, args, below, meth, c, A, Q, nL⟩ := K
  obtain ⟨hx, hb, hml, hown, hts, hK, hlk, hA, hfr, hlo, hN, hn⟩ := C
  intro H locs ls hP hD hS hl
  refine W.lcmp hx hb hd0 ?_
  exact lv_if_gt hx hb hd ht (fun q => kt (((lg_cmp_gt _ _).trans (lZ_lt hb9 ha)).mp q) H locs ls hP hD hS hl) (fun q => kf (by have h9 := mt ((lg_cmp_gt _ _).trans (lZ_lt hb9 ha)).mpr q; omega) H locs ls hP hD hS hl)

theorem g_icmp_le {g : Gx} {K : Kx} {cc : ByteArray} {own : String} {n fr lo : Nat} {ws : va_W} {pc : Nat} {lv : List (Nat × Value)} {rest : List Value} {a b off : Int} (tgt : Nat) (C : CX g K cc own n fr lo) (ha : I32 a) (hb9 : I32 b) (hd : decode cc pc = .ok (.if_icmp .le off, 3)) (ht : (pc : Int) + off = (tgt : Int)) (kt : a ≤ b → GJ g K ws tgt lv rest) (kf : b < a → GJ g K ws (pc + 3) lv rest) : GJ g K ws pc lv (.int (iZ b) :: .int (iZ a) :: rest) := by
  obtain ⟨p, e, R, s, m, args, below, meth, c, A, Q, nL⟩ := K
  obtain ⟨hx, hb, hml, hown, hts, hK, hlk, hA, hfr, hlo, hN, hn⟩ := C
  intro H locs ls hP hD hS hl
  exact lv_icmp_le hx hb hd ht (fun q => kt ((iZ_le ha hb9).mp q) H locs ls hP hD hS hl) (fun q => kf (by have h9 := mt (iZ_le ha hb9).mpr q; omega) H locs ls hP hD hS hl)

theorem g_if_le {g : Gx} {K : Kx} {cc : ByteArray} {own : String} {n fr lo : Nat} {ws : va_W} {pc : Nat} {lv : List (Nat × Value)} {rest : List Value} {a off : Int} (tgt : Nat) (C : CX g K cc own n fr lo) (ha : I32 a) (hd : decode cc pc = .ok (.ifCond .le off, 3)) (ht : (pc : Int) + off = (tgt : Int)) (kt : a ≤ 0 → GJ g K ws tgt lv rest) (kf : 0 < a → GJ g K ws (pc + 3) lv rest) : GJ g K ws pc lv (.int (iZ a) :: rest) := by
  obtain ⟨p, e, R, s, m, args, below, meth, c, A, Q, nL⟩ := K
  obtain ⟨hx, hb, hml, hown, hts, hK, hlk, hA, hfr, hlo, hN, hn⟩ := C
  intro H locs ls hP hD hS hl
  exact lv_if_le hx hb hd ht (fun q => kt ((iZ_le ha I32_0).mp q) H locs ls hP hD hS hl) (fun q => kf (by have h9 := mt (iZ_le ha I32_0).mpr q; omega) H locs ls hP hD hS hl)

theorem g_lcmp_le {g : Gx} {K : Kx} {cc : ByteArray} {own : String} {n fr lo : Nat} {ws : va_W} {pc : Nat} {lv : List (Nat × Value)} {rest : List Value} {a b off : Int} (tgt : Nat) (C : CX g K cc own n fr lo) (ha : I64 a) (hb9 : I64 b) (hd0 : decode cc pc = .ok (.lcmp, 1)) (hd : decode cc (pc + 1) = .ok (.ifCond .le off, 3)) (ht : ((pc + 1 : Nat) : Int) + off = (tgt : Int)) (kt : a ≤ b → GJ g K ws tgt lv rest) (kf : b < a → GJ g K ws (pc + 4) lv rest) : GJ g K ws pc lv (.long (lZ b) :: .long (lZ a) :: rest) := by
  obtain ⟨p, e, R, s, m, args, below, meth, c, A, Q, nL⟩ := K
  obtain ⟨hx, hb, hml, hown, hts, hK, hlk, hA, hfr, hlo, hN, hn⟩ := C
  intro H locs ls hP hD hS hl
  refine W.lcmp hx hb hd0 ?_
  exact lv_if_le hx hb hd ht (fun q => kt (((lg_cmp_le _ _).trans (lZ_le ha hb9)).mp q) H locs ls hP hD hS hl) (fun q => kf (by have h9 := mt ((lg_cmp_le _ _).trans (lZ_le ha hb9)).mpr q; omega) H locs ls hP hD hS hl)

theorem g_beq {g : Gx} {K : Kx} {cc : ByteArray} {own : String} {n fr lo : Nat} {ws : va_W} {pc : Nat} {lv : List (Nat × Value)} {rest : List Value} {P : Prop} {off : Int} (tgt : Nat) (C : CX g K cc own n fr lo) (hd : decode cc pc = .ok (.ifCond .eq off, 3)) (ht : (pc : Int) + off = (tgt : Int)) (kt : ¬ P → GJ g K ws tgt lv rest) (kf : P → GJ g K ws (pc + 3) lv rest) : GJ g K ws pc lv (.int (iZ (bZ P)) :: rest) := by
  exact g_if_eq tgt C (bZ_I P) hd ht (fun q => kt (bZ_0.mp q)) (fun q => kf (bZ_n0.mp q))

theorem g_bne {g : Gx} {K : Kx} {cc : ByteArray} {own : String} {n fr lo : Nat} {ws : va_W} {pc : Nat} {lv : List (Nat × Value)} {rest : List Value} {P : Prop} {off : Int} (tgt : Nat) (C : CX g K cc own n fr lo) (hd : decode cc pc = .ok (.ifCond .ne off, 3)) (ht : (pc : Int) + off = (tgt : Int)) (kt : P → GJ g K ws tgt lv rest) (kf : ¬ P → GJ g K ws (pc + 3) lv rest) : GJ g K ws pc lv (.int (iZ (bZ P)) :: rest) := by
  exact g_if_ne tgt C (bZ_I P) hd ht (fun q => kt (bZ_n0.mp q)) (fun q => kf (bZ_0.mp q))

theorem g_iret {g : Gx} {K : Kx} {cc : ByteArray} {own : String} {n fr lo : Nat} {pc : Nat} {lv : List (Nat × Value)} {S : Type} {Wf : S → va_W} {post : Option Value → S → Prop} {u : S} {x : Int32} (C : CX g K cc own n fr lo) (T : RT g K (some .int) Wf post) (hd : decode cc pc = .ok (.ireturn, 1)) (h : post (some (.int x)) u) : GJ g K (Wf u) pc lv [.int x] := by
  obtain ⟨p, e, R, s, m, args, below, meth, c, A, Q, nL⟩ := K
  obtain ⟨hx, hb, hml, hown, hts, hK, hlk, hA, hfr, hlo, hN, hn⟩ := C
  intro H locs ls hP hD hS hl
  obtain ⟨hr, rfl⟩ := T
  exact W.iret hx hb hr (fun t ht _ => ⟨⟨_, u, rfl, h, by rw [ht]; exact hP, hD⟩, hS.F ht⟩) hS.2.2 hd hlk

theorem g_lret {g : Gx} {K : Kx} {cc : ByteArray} {own : String} {n fr lo : Nat} {pc : Nat} {lv : List (Nat × Value)} {S : Type} {Wf : S → va_W} {post : Option Value → S → Prop} {u : S} {x : Int64} (C : CX g K cc own n fr lo) (T : RT g K (some .long) Wf post) (hd : decode cc pc = .ok (.lreturn, 1)) (h : post (some (.long x)) u) : GJ g K (Wf u) pc lv [.long x] := by
  obtain ⟨p, e, R, s, m, args, below, meth, c, A, Q, nL⟩ := K
  obtain ⟨hx, hb, hml, hown, hts, hK, hlk, hA, hfr, hlo, hN, hn⟩ := C
  intro H locs ls hP hD hS hl
  obtain ⟨hr, rfl⟩ := T
  exact W.lret hx hb hr (fun t ht _ => ⟨⟨_, u, rfl, h, by rw [ht]; exact hP, hD⟩, hS.F ht⟩) hS.2.2 hd hlk

theorem g_vret {g : Gx} {K : Kx} {cc : ByteArray} {own : String} {n fr lo : Nat} {pc : Nat} {lv : List (Nat × Value)} {S : Type} {Wf : S → va_W} {post : Option Value → S → Prop} {u : S}  (C : CX g K cc own n fr lo) (T : RT g K (none) Wf post) (hd : decode cc pc = .ok (.return_, 1)) (h : post (none) u) : GJ g K (Wf u) pc lv [] := by
  obtain ⟨p, e, R, s, m, args, below, meth, c, A, Q, nL⟩ := K
  obtain ⟨hx, hb, hml, hown, hts, hK, hlk, hA, hfr, hlo, hN, hn⟩ := C
  intro H locs ls hP hD hS hl
  obtain ⟨hr, rfl⟩ := T
  exact W.vret hx hb hr (fun t ht _ => ⟨⟨_, u, rfl, h, by rw [ht]; exact hP, hD⟩, hS.F ht⟩) hS.2.2 hd hlk

theorem nar_b {z : Int} (h : z = 0 ∨ z = 1) : narrow .boolean (.int (iZ z)) = .int (iZ z) ∧ fits .boolean (.int (iZ z)) = true := by
  rcases h with rfl | rfl <;> exact ⟨by decide +kernel, by decide +kernel⟩
theorem g_zret {g : Gx} {K : Kx} {cc : ByteArray} {own : String} {n fr lo : Nat} {pc : Nat} {lv : List (Nat × Value)} {S : Type} {Wf : S → va_W} {post : Option Value → S → Prop} {u : S} {z : Int} (C : CX g K cc own n fr lo) (T : RT g K (some .boolean) Wf post) (hd : decode cc pc = .ok (.ireturn, 1)) (hz : z = 0 ∨ z = 1) (h : post (some (.int (iZ z))) u) : GJ g K (Wf u) pc lv [.int (iZ z)] := by
  obtain ⟨p, e, R, s, m, args, below, meth, c, A, Q, nL⟩ := K
  obtain ⟨hx, hb, hml, hown, hts, hK, hlk, hA, hfr, hlo, hN, hn⟩ := C
  intro H locs ls hP hD hS hl
  obtain ⟨hr, rfl⟩ := T
  exact W.zret hx hb hr (nar_b hz).1 (fun t ht _ => ⟨⟨_, u, rfl, h, by rw [ht]; exact hP, hD⟩, hS.F ht⟩) hS.2.2 hd hlk

theorem g_get {g : Gx} {K : Kx} {cc : ByteArray} {own : String} {n fr lo : Nat} {ws : va_W} {pc : Nat} {lv : List (Nat × Value)} {rest : List Value} (C : CX g K cc own n fr lo) (q0 ci k : Nat) {a N idx : Nat} {fs : List Value} {C0 : String} {T0 : u_T} {v : Value} (he : ws[q0]? = some (a, .inr (ci, fs))) (hc : vwCl[ci]? = some (C0, T0, N)) (hk : k < N) (hin : ∀ w ∈ u_ws C0 T0 N, w ∈ BIG) (hlink : Cond.fieldLink own idx (T0 k).1 (T0 k).2.1 (T0 k).2.2.1 ∈ BIG) (hv : fs[k]? = some v) (hd : decode cc pc = .ok (.getfield idx, 3)) (kk : GJ g K ws (pc + 3) lv (v :: rest)) : GJ g K ws pc lv (.ref a :: rest) := by
  obtain ⟨p, e, R, s, m, args, below, meth, c, A, Q, nL⟩ := K
  obtain ⟨hx, hb, hml, hown, hts, hK, hlk, hA, hfr, hlo, hN, hn⟩ := C
  intro H locs ls hP hD hS hl
  exact va_get hx hb hts hin hown hK hP q0 he hc k hk (hts _ hlink) (fun _ h9 => h9) hv hd (kk H locs ls hP hD hS hl)
theorem g_put {g : Gx} {K : Kx} {cc : ByteArray} {own : String} {n fr lo : Nat} {ws : va_W} {pc : Nat} {lv : List (Nat × Value)} {rest : List Value} (C : CX g K cc own n fr lo) (q0 ci k : Nat) {a N idx : Nat} {fs : List Value} {C0 : String} {T0 : u_T} {v : Value} {ws' : va_W} (ty0 : Nat → FieldType) (he : ws[q0]? = some (a, .inr (ci, fs))) (hc : vwCl[ci]? = some (C0, T0, N)) (hk : k < N) (hin : ∀ w ∈ u_ws C0 T0 N, w ∈ BIG) (hty : ∀ k, k < N → parseFieldDescriptor (T0 k).2.2.1 = some (ty0 k)) (hnm : ∀ a, a < N → ∀ b, b < N → a ≠ b → (T0 a).2.1 ≠ (T0 b).2.1) (hlink : Cond.fieldLink own idx (T0 k).1 (T0 k).2.1 (T0 k).2.2.1 ∈ BIG) (hfin : (T0 k).2.2.2 = false) (hn9 : narrow (ty0 k) v = v) (hfit : fits (ty0 k) v = true) (hlen : k < fs.length) (hset : ws.set q0 (a, .inr (ci, fs.set k v)) = ws') (hd : decode cc pc = .ok (.putfield idx, 3)) (kk : GJ g K ws' (pc + 3) lv rest) : GJ g K ws pc lv (v :: .ref a :: rest) := by
  obtain ⟨p, e, R, s, m, args, below, meth, c, A, Q, nL⟩ := K
  obtain ⟨hx, hb, hml, hown, hts, hK, hlk, hA, hfr, hlo, hN, hn⟩ := C
  intro H locs ls hP hD hS hl
  subst hset
  exact va_put hx hb hts hin ty0 hty hnm hown hK hP hD hS q0 he hc k hk (hts _ hlink) (fun _ h9 => h9) hfin (hty k hk) hn9 hfit hlen hd (fun H1 locs1 hP1 hD1 hS1 => kk H1 locs1 ls hP1 hD1 hS1 hl)

theorem g_iald {g : Gx} {K : Kx} {cc : ByteArray} {own : String} {n fr lo : Nat} {nC : Nat} {E : Nat → (Nat → Int) → va_E} {q : Nat → Nat} {σ : Nat → Nat → Int} {pc : Nat} {lv : List (Nat × Value)} {rest : List Value} (C : CX g K cc own n fr lo) (c0 j : Nat) {len : Nat} {z : Int} (hc : c0 < nC) (hE : ∀ f : Nat → Int, E c0 f = .inl (g.2.2.1, len, .inl (fun j => iZ (f j)))) (hz : z = (j : Int)) (hj : j < len) (hlen : len ≤ 1000) (hd : decode cc pc = .ok (.iaload, 1)) (kk : GJ g K (WD nC E q σ) (pc + 1) lv (.int (iZ (σ c0 j)) :: rest)) : GJ g K (WD nC E q σ) pc lv (.int (iZ z) :: .ref (q c0) :: rest) := by
  obtain ⟨p, e, R, s, m, args, below, meth, c, A, Q, nL⟩ := K
  obtain ⟨hx, hb, hml, hown, hts, hK, hlk, hA, hfr, hlo, hN, hn⟩ := C
  intro H locs ls hP hD hS hl
  obtain ⟨h1, h2⟩ := iZ_in hz hj hlen
  refine va_iald hx hb hK hP c0 0 ((WD_get hc).trans (by rw [hE])) rfl h1 hd ?_
  rw [h2]
  exact kk H locs ls hP hD hS hl

theorem g_iast {g : Gx} {K : Kx} {cc : ByteArray} {own : String} {n fr lo : Nat} {nC : Nat} {E : Nat → (Nat → Int) → va_E} {q : Nat → Nat} {σ : Nat → Nat → Int} {pc : Nat} {lv : List (Nat × Value)} {rest : List Value} (C : CX g K cc own n fr lo) (c0 j : Nat) {len : Nat} {z x : Int} (hc : c0 < nC) (hE : ∀ f : Nat → Int, E c0 f = .inl (g.2.2.1, len, .inl (fun j => iZ (f j)))) (hz : z = (j : Int)) (hj : j < len) (hlen : len ≤ 1000) (hd : decode cc pc = .ok (.iastore, 1)) (kk : GJ g K (WD nC E q (up σ c0 j x)) (pc + 1) lv rest) : GJ g K (WD nC E q σ) pc lv (.int (iZ x) :: .int (iZ z) :: .ref (q c0) :: rest) := by
  obtain ⟨p, e, R, s, m, args, below, meth, c, A, Q, nL⟩ := K
  obtain ⟨hx, hb, hml, hown, hts, hK, hlk, hA, hfr, hlo, hN, hn⟩ := C
  intro H locs ls hP hD hS hl
  obtain ⟨h1, h2⟩ := iZ_in hz hj hlen
  refine va_iast hx hb hK hP hD hS c0 0 ((WD_get hc).trans (by rw [hE])) rfl h1 hd ?_
  rw [h2]
  intro H1 locs1 hP1 hD1 hS1
  have e9 : (WD nC E q σ).set c0 (q c0, .inl (g.2.2.1, len, .inl (upd (fun j => iZ (σ c0 j)) j (iZ x)))) = WD nC E q (up σ c0 j x) := by
    show _ = WD nC E q (upf σ c0 (updI (σ c0) j x))
    rw [← WD_set, hE]
    congr 6
    funext i
    simp only [upd, updI]
    split <;> rfl
  rw [e9] at hP1 hD1
  exact kk H1 locs1 ls hP1 hD1 hS1 hl

theorem g_lald {g : Gx} {K : Kx} {cc : ByteArray} {own : String} {n fr lo : Nat} {nC : Nat} {E : Nat → (Nat → Int) → va_E} {q : Nat → Nat} {σ : Nat → Nat → Int} {pc : Nat} {lv : List (Nat × Value)} {rest : List Value} (C : CX g K cc own n fr lo) (c0 j : Nat) {len : Nat} {z : Int} (hc : c0 < nC) (hE : ∀ f : Nat → Int, E c0 f = .inl (g.2.2.2.1, len, .inr (.inl (fun j => lZ (f j))))) (hz : z = (j : Int)) (hj : j < len) (hlen : len ≤ 1000) (hd : decode cc pc = .ok (.laload, 1)) (kk : GJ g K (WD nC E q σ) (pc + 1) lv (.long (lZ (σ c0 j)) :: rest)) : GJ g K (WD nC E q σ) pc lv (.int (iZ z) :: .ref (q c0) :: rest) := by
  obtain ⟨p, e, R, s, m, args, below, meth, c, A, Q, nL⟩ := K
  obtain ⟨hx, hb, hml, hown, hts, hK, hlk, hA, hfr, hlo, hN, hn⟩ := C
  intro H locs ls hP hD hS hl
  obtain ⟨h1, h2⟩ := iZ_in hz hj hlen
  refine va_lald hx hb hK hP c0 1 ((WD_get hc).trans (by rw [hE])) rfl h1 hd ?_
  rw [h2]
  exact kk H locs ls hP hD hS hl

theorem g_last {g : Gx} {K : Kx} {cc : ByteArray} {own : String} {n fr lo : Nat} {nC : Nat} {E : Nat → (Nat → Int) → va_E} {q : Nat → Nat} {σ : Nat → Nat → Int} {pc : Nat} {lv : List (Nat × Value)} {rest : List Value} (C : CX g K cc own n fr lo) (c0 j : Nat) {len : Nat} {z x : Int} (hc : c0 < nC) (hE : ∀ f : Nat → Int, E c0 f = .inl (g.2.2.2.1, len, .inr (.inl (fun j => lZ (f j))))) (hz : z = (j : Int)) (hj : j < len) (hlen : len ≤ 1000) (hd : decode cc pc = .ok (.lastore, 1)) (kk : GJ g K (WD nC E q (up σ c0 j x)) (pc + 1) lv rest) : GJ g K (WD nC E q σ) pc lv (.long (lZ x) :: .int (iZ z) :: .ref (q c0) :: rest) := by
  obtain ⟨p, e, R, s, m, args, below, meth, c, A, Q, nL⟩ := K
  obtain ⟨hx, hb, hml, hown, hts, hK, hlk, hA, hfr, hlo, hN, hn⟩ := C
  intro H locs ls hP hD hS hl
  obtain ⟨h1, h2⟩ := iZ_in hz hj hlen
  refine va_last hx hb hK hP hD hS c0 1 ((WD_get hc).trans (by rw [hE])) rfl h1 hd ?_
  rw [h2]
  intro H1 locs1 hP1 hD1 hS1
  have e9 : (WD nC E q σ).set c0 (q c0, .inl (g.2.2.2.1, len, .inr (.inl (vp_updL (fun j => lZ (σ c0 j)) j (lZ x))))) = WD nC E q (up σ c0 j x) := by
    show _ = WD nC E q (upf σ c0 (updI (σ c0) j x))
    rw [← WD_set, hE]
    congr 7
    funext i
    simp only [vp_updL, updI]
    split <;> rfl
  rw [e9] at hP1 hD1
  exact kk H1 locs1 ls hP1 hD1 hS1 hl

theorem cats {m : MethodId} {pc : Nat} {ls : Array Slot} {st0 rest : List Value} (h : (rest.map fun v => v.category).sum ≤ 8) : 2 * (F0 m pc ls st0).monitorRoom + (rest.map fun v => v.category).sum ≤ 8 := lv_room h
/-- a call of an instance method whose world is the caller's own -/
theorem g_call {g : Gx} {K : Kx} {cc : ByteArray} {own : String} {n fr lo : Nat} {ws : va_W} {pc : Nat} {lv : List (Nat × Value)} {rest : List Value} (C : CX g K cc own n fr lo) {S : Type} {y : MethodName} {cc' : ByteArray} {maxL' fr' lo' : Nat} {ret' : Option FieldType} {b idx N : Nat} {as st : List Value} {Wf : S → va_W} {post : Option Value → S → Prop} {C0 : String} {T0 : u_T} {fs : List Value}
    (M : MC g y cc' maxL' ret' fr' lo' ws (.ref b :: as) Wf post) (hG : GoodIn BIG (wsV own idx C0 y (Cond.code y cc' maxL' ret' :: BIG))) (hd0 : y.cls = C0 ∧ y.cls ≠ "java/lang/invoke/MethodHandle" ∧ y.cls ≠ "java/lang/invoke/VarHandle" ∧ (parseMethodDescriptor y.desc).map (fun d => d.parameters.length) = some as.length) (hr : fr' + 1 ≤ fr ∧ 8 + (maxL' + 11) + lo' ≤ lo) (q0 ci : Nat) (he : ws[q0]? = some (b, .inr (ci, fs))) (hc : vwCl[ci]? = some (C0, T0, N)) (hst : st = as.reverse ++ .ref b :: rest) (hW : (rest.map fun v => v.category).sum ≤ 8) (hd : decode cc pc = .ok (.invokevirtual idx, 3))
    (k : ∀ (v : Option Value) (u : S), post v u → GJ g K (Wf u) (pc + 3) lv (v.toList ++ rest)) : GJ g K ws pc lv st := by
  obtain ⟨p, e, R, s, m, args, below, meth, c, A, Q, nL⟩ := K
  obtain ⟨hx, hb, hml, hown, hts, hK, hlk, hA, hfr, hlo, hN, hn⟩ := C
  intro H locs ls hP hD hS hl
  subst hfr; subst hlo
  have hF : ∀ q, va_A ws H.size q → A q := by
    rintro q (⟨k, e, h⟩ | h)
    · exact hD.2 k (q, e) h
    · exact hA q (Nat.le_trans hS.1 h)
  refine w_call (va_runV (As := as) (rest := rest) ⟨hx, hb, hml, hown, hts⟩ (M H.size) (cwV as.length hts hG rfl rfl rfl hd0 hr) ⟨blind_MC, va_recv hK hP hc he, fun U hU hW => ⟨rfl, by rw [hU], by rw [hU]; exact hP, va_K.moved hW.alike hK, hD.weaken (fun _ _ _ _ => trivial), hN.warm hW⟩⟩ rfl rfl hl.1 hst (cats hW) hd ⟨Nat.zero_le _, Nat.zero_le _⟩) hS (fun q _ h => hF q h) hF (fun v u H1 locs1 hp hP1 hD1 hz1 hk1 hS1 => ?_)
  exact k v u hp H1 locs1 ls hP1 (hD1.weaken (fun _ _ _ h => hF _ h)) hS1 hl
theorem kept_all {g : Gx} {ws : va_W} {H H1 : Heap} (hP : va_P g.2.1 vwCl ws H) (hk : ∀ q : Nat, q < H.size → ¬ va_A [] H.size q → H1[q]? = H[q]?) : va_P g.2.1 vwCl ws H1 :=
  va_P.kept hP (fun k q hq => hk q.1 (hP k q hq).lt (fun h => by
    rcases h with ⟨i, e, h⟩ | h
    · simp at h
    · exact absurd (hP k q hq).lt (Nat.not_lt.mpr h)))
/-- a call of a static method that touches no cell -/
theorem g_callS {g : Gx} {K : Kx} {cc : ByteArray} {own : String} {n fr lo : Nat} {ws : va_W} {pc : Nat} {lv : List (Nat × Value)} {rest : List Value} (C : CX g K cc own n fr lo) {y : MethodName} {cc' : ByteArray} {maxL' fr' lo' : Nat} {ret' : Option FieldType} {idx : Nat} {as st : List Value} {post : Option Value → Unit → Prop}
    (M : MC g y cc' maxL' ret' fr' lo' [] as (fun _ : Unit => []) post) (hG : GoodIn BIG (wsS own idx y (Cond.code y cc' maxL' ret' :: BIG))) (hd0 : y.cls = own ∧ y.cls ≠ "java/lang/invoke/MethodHandle" ∧ y.cls ≠ "java/lang/invoke/VarHandle" ∧ (parseMethodDescriptor y.desc).map (fun d => d.parameters.length) = some as.length) (hr : fr' + 1 ≤ fr ∧ 8 + (maxL' + 11) + lo' ≤ lo) (hst : st = as.reverse ++ rest) (hW : (rest.map fun v => v.category).sum ≤ 8) (hd : decode cc pc = .ok (.invokestatic idx, 3))
    (k : ∀ v : Option Value, post v () → GJ g K ws (pc + 3) lv (v.toList ++ rest)) : GJ g K ws pc lv st := by
  obtain ⟨p, e, R, s, m, args, below, meth, c, A, Q, nL⟩ := K
  obtain ⟨hx, hb, hml, hown, hts, hK, hlk, hA, hfr, hlo, hN, hn⟩ := C
  intro H locs ls hP hD hS hl
  subst hfr; subst hlo
  have hF : ∀ q, va_A [] H.size q → A q := by
    rintro q (⟨k, e, h⟩ | h)
    · simp at h
    · exact hA q (Nat.le_trans hS.1 h)
  refine w_call (va_runS (As := as) (rest := rest) ⟨hx, hb, hml, hown, hts⟩ (M H.size) (cwS as.length hts hG rfl rfl rfl hd0 hr) ⟨blind_MC, fun U hU hW => ⟨rfl, by rw [hU], fun k q h => by simp at h, va_K.moved hW.alike hK, ⟨fun i j p q h => by simp at h, fun k q h => by simp at h⟩, hN.warm hW⟩⟩ rfl rfl hl.1 hst (cats hW) hd ⟨Nat.zero_le _, Nat.zero_le _⟩) hS (fun q _ h => hF q h) hF (fun v u H1 locs1 hp hP1 hD1 hz1 hk1 hS1 => ?_)
  exact k v hp H1 locs1 ls (kept_all hP hk1) hD hS1 hl
/-- Math.abs of a long -/
theorem g_labs {g : Gx} {K : Kx} {cc : ByteArray} {own : String} {n fr lo : Nat} {ws : va_W} {pc : Nat} {lv : List (Nat × Value)} {rest : List Value} {z : Int} {idx : Nat} (C : CX g K cc own n fr lo) (h1 : Cond.methodLink own idx Lib.MathLoose.abs_long.x ∈ BIG) (hfr9 : 1 ≤ fr) (hlo9 : (rest.map fun v => v.category).sum + 13 ≤ lo) (hz : I64 z) (hd : decode cc pc = .ok (.invokestatic idx, 3)) (k : GJ g K ws (pc + 3) lv (.long (lZ (if 0 < z then z else -z)) :: rest)) : GJ g K ws pc lv (.long (lZ z) :: rest) := by
  obtain ⟨p, e, R, s, m, args, below, meth, c, A, Q, nL⟩ := K
  obtain ⟨hx, hb, hml, hown, hts, hK, hlk, hA, hfr, hlo, hN, hn⟩ := C
  intro H locs ls hP hD hS hl
  subst hfr; subst hlo
  refine va_mabs_long hx hb (hml.trans hl.1.symm) hown (hts _ h1) (hts _ in_absS) (hts _ in_absI) (hts _ in_absC) hfr9 hlo9 (Nat.zero_le _) (Nat.zero_le _) hd ?_
  have e9 : (if 0 < lZ z then lZ z else -lZ z) = lZ (if 0 < z then z else -z) := by
    by_cases h : 0 < z
    · rw [if_pos h, if_pos (show (0 : Int64) < lZ z from (lZ_lt I64_0 hz).mpr h)]
    · rw [if_neg h, if_neg (show ¬ (0 : Int64) < lZ z from fun q => h ((lZ_lt I64_0 hz).mp q)), lZ_neg]
  rw [e9]
  exact k H locs ls hP hD hS hl

theorem g_iname {g : Gx} {K : Kx} {ws : va_W} {pc : Nat} {lv : List (Nat × Value)} {rest : List Value} {z : Int} (k : ∀ x : Int, x = z → GJ g K ws pc lv (.int (iZ x) :: rest)) : GJ g K ws pc lv (.int (iZ z) :: rest) := k z rfl
theorem g_lname {g : Gx} {K : Kx} {ws : va_W} {pc : Nat} {lv : List (Nat × Value)} {rest : List Value} {z : Int} (k : ∀ x : Int, x = z → GJ g K ws pc lv (.long (lZ x) :: rest)) : GJ g K ws pc lv (.long (lZ z) :: rest) := k z rfl
theorem g_callI {g : Gx} {K : Kx} {cc : ByteArray} {own : String} {n fr lo : Nat} {ws : va_W} {pc : Nat} {lv : List (Nat × Value)} {rest : List Value} (C : CX g K cc own n fr lo) {S : Type} {y : MethodName} {cc' : ByteArray} {maxL' fr' lo' : Nat} {ret' : Option FieldType} {b idx N : Nat} {as st : List Value} {Wf : S → va_W} {P : Int → S → Prop} {C0 : String} {T0 : u_T} {fs : List Value}
    (M : MC g y cc' maxL' ret' fr' lo' ws (.ref b :: as) Wf (pI P)) (hG : GoodIn BIG (wsV own idx C0 y (Cond.code y cc' maxL' ret' :: BIG))) (hd0 : y.cls = C0 ∧ y.cls ≠ "java/lang/invoke/MethodHandle" ∧ y.cls ≠ "java/lang/invoke/VarHandle" ∧ (parseMethodDescriptor y.desc).map (fun d => d.parameters.length) = some as.length) (hr : fr' + 1 ≤ fr ∧ 8 + (maxL' + 11) + lo' ≤ lo) (q0 ci : Nat) (he : ws[q0]? = some (b, .inr (ci, fs))) (hc : vwCl[ci]? = some (C0, T0, N)) (hst : st = as.reverse ++ .ref b :: rest) (hW : (rest.map fun v => v.category).sum ≤ 8) (hd : decode cc pc = .ok (.invokevirtual idx, 3))
    (k : ∀ (z : Int) (u : S), P z u → GJ g K (Wf u) (pc + 3) lv (.int (iZ z) :: rest)) : GJ g K ws pc lv st := g_call C M hG hd0 hr q0 ci he hc hst hW hd (fun v u h => by
      obtain ⟨z, rfl, h⟩ := h
      exact k z u h)
theorem g_callL {g : Gx} {K : Kx} {cc : ByteArray} {own : String} {n fr lo : Nat} {ws : va_W} {pc : Nat} {lv : List (Nat × Value)} {rest : List Value} (C : CX g K cc own n fr lo) {S : Type} {y : MethodName} {cc' : ByteArray} {maxL' fr' lo' : Nat} {ret' : Option FieldType} {b idx N : Nat} {as st : List Value} {Wf : S → va_W} {P : Int → S → Prop} {C0 : String} {T0 : u_T} {fs : List Value}
    (M : MC g y cc' maxL' ret' fr' lo' ws (.ref b :: as) Wf (pL P)) (hG : GoodIn BIG (wsV own idx C0 y (Cond.code y cc' maxL' ret' :: BIG))) (hd0 : y.cls = C0 ∧ y.cls ≠ "java/lang/invoke/MethodHandle" ∧ y.cls ≠ "java/lang/invoke/VarHandle" ∧ (parseMethodDescriptor y.desc).map (fun d => d.parameters.length) = some as.length) (hr : fr' + 1 ≤ fr ∧ 8 + (maxL' + 11) + lo' ≤ lo) (q0 ci : Nat) (he : ws[q0]? = some (b, .inr (ci, fs))) (hc : vwCl[ci]? = some (C0, T0, N)) (hst : st = as.reverse ++ .ref b :: rest) (hW : (rest.map fun v => v.category).sum ≤ 8) (hd : decode cc pc = .ok (.invokevirtual idx, 3))
    (k : ∀ (z : Int) (u : S), P z u → GJ g K (Wf u) (pc + 3) lv (.long (lZ z) :: rest)) : GJ g K ws pc lv st := g_call C M hG hd0 hr q0 ci he hc hst hW hd (fun v u h => by
      obtain ⟨z, rfl, h⟩ := h
      exact k z u h)
theorem g_callV {g : Gx} {K : Kx} {cc : ByteArray} {own : String} {n fr lo : Nat} {ws : va_W} {pc : Nat} {lv : List (Nat × Value)} {rest : List Value} (C : CX g K cc own n fr lo) {S : Type} {y : MethodName} {cc' : ByteArray} {maxL' fr' lo' : Nat} {ret' : Option FieldType} {b idx N : Nat} {as st : List Value} {Wf : S → va_W} {P : S → Prop} {C0 : String} {T0 : u_T} {fs : List Value}
    (M : MC g y cc' maxL' ret' fr' lo' ws (.ref b :: as) Wf (pV P)) (hG : GoodIn BIG (wsV own idx C0 y (Cond.code y cc' maxL' ret' :: BIG))) (hd0 : y.cls = C0 ∧ y.cls ≠ "java/lang/invoke/MethodHandle" ∧ y.cls ≠ "java/lang/invoke/VarHandle" ∧ (parseMethodDescriptor y.desc).map (fun d => d.parameters.length) = some as.length) (hr : fr' + 1 ≤ fr ∧ 8 + (maxL' + 11) + lo' ≤ lo) (q0 ci : Nat) (he : ws[q0]? = some (b, .inr (ci, fs))) (hc : vwCl[ci]? = some (C0, T0, N)) (hst : st = as.reverse ++ .ref b :: rest) (hW : (rest.map fun v => v.category).sum ≤ 8) (hd : decode cc pc = .ok (.invokevirtual idx, 3))
    (k : ∀ u : S, P u → GJ g K (Wf u) (pc + 3) lv rest) : GJ g K ws pc lv st := g_call C M hG hd0 hr q0 ci he hc hst hW hd (fun v u h => by
      obtain ⟨rfl, h⟩ := h
      exact k u h)
theorem g_callSI {g : Gx} {K : Kx} {cc : ByteArray} {own : String} {n fr lo : Nat} {ws : va_W} {pc : Nat} {lv : List (Nat × Value)} {rest : List Value} (C : CX g K cc own n fr lo) {y : MethodName} {cc' : ByteArray} {maxL' fr' lo' : Nat} {ret' : Option FieldType} {idx : Nat} {as st : List Value} {P : Int → Unit → Prop}
    (M : MC g y cc' maxL' ret' fr' lo' [] as (fun _ : Unit => []) (pI P)) (hG : GoodIn BIG (wsS own idx y (Cond.code y cc' maxL' ret' :: BIG))) (hd0 : y.cls = own ∧ y.cls ≠ "java/lang/invoke/MethodHandle" ∧ y.cls ≠ "java/lang/invoke/VarHandle" ∧ (parseMethodDescriptor y.desc).map (fun d => d.parameters.length) = some as.length) (hr : fr' + 1 ≤ fr ∧ 8 + (maxL' + 11) + lo' ≤ lo) (hst : st = as.reverse ++ rest) (hW : (rest.map fun v => v.category).sum ≤ 8) (hd : decode cc pc = .ok (.invokestatic idx, 3))
    (k : ∀ z : Int, P z () → GJ g K ws (pc + 3) lv (.int (iZ z) :: rest)) : GJ g K ws pc lv st := g_callS C M hG hd0 hr hst hW hd (fun v h => by
      obtain ⟨z, rfl, h⟩ := h
      exact k z h)
theorem g_callSL {g : Gx} {K : Kx} {cc : ByteArray} {own : String} {n fr lo : Nat} {ws : va_W} {pc : Nat} {lv : List (Nat × Value)} {rest : List Value} (C : CX g K cc own n fr lo) {y : MethodName} {cc' : ByteArray} {maxL' fr' lo' : Nat} {ret' : Option FieldType} {idx : Nat} {as st : List Value} {P : Int → Unit → Prop}
    (M : MC g y cc' maxL' ret' fr' lo' [] as (fun _ : Unit => []) (pL P)) (hG : GoodIn BIG (wsS own idx y (Cond.code y cc' maxL' ret' :: BIG))) (hd0 : y.cls = own ∧ y.cls ≠ "java/lang/invoke/MethodHandle" ∧ y.cls ≠ "java/lang/invoke/VarHandle" ∧ (parseMethodDescriptor y.desc).map (fun d => d.parameters.length) = some as.length) (hr : fr' + 1 ≤ fr ∧ 8 + (maxL' + 11) + lo' ≤ lo) (hst : st = as.reverse ++ rest) (hW : (rest.map fun v => v.category).sum ≤ 8) (hd : decode cc pc = .ok (.invokestatic idx, 3))
    (k : ∀ z : Int, P z () → GJ g K ws (pc + 3) lv (.long (lZ z) :: rest)) : GJ g K ws pc lv st := g_callS C M hG hd0 hr hst hW hd (fun v h => by
      obtain ⟨z, rfl, h⟩ := h
      exact k z h)