/-! the law: its script, and a theorem for each kind of call -/
def LXK (K : Kx) (b L : Nat) (xs : Nat → Int32) : Prop := match K with
  | (_, _, _, s, _, _, _, _, _, A, _, _) => va_X b L xs s s.heap ∧ b < s.heap.size ∧ ¬ A b
theorem n_sld {g : Gx} {K : Kx} {cs sl : Nat} {cc : ByteArray} {own : String} {n fr lo : Nat} {ws : va_W} {pc : Nat} {lv : List (Nat × Value)} {rest : List Value} {b L : Nat} {xs : Nat → Int32} {z : Int} (j : Nat) (C : CX g K cc own n fr lo) (hX : LXK K b L xs) (hz : z = (j : Int)) (hj : j < L) (hL : L ≤ 2560) (hd : decode cc pc = .ok (.iaload, 1)) (k : GN g K cs sl ws (pc + 1) lv (.int (iZ (xs j).toInt) :: rest)) : GN g K cs sl ws pc lv (.int (iZ z) :: .ref b :: rest) := by
  obtain ⟨p, e, R, s, m, args, below, meth, c, A, Q, nL⟩ := K
  obtain ⟨hx, hb, hml, hown, hts, hK, hlk, hA, hfr, hlo, hN, hn⟩ := C
  intro H locs ls hP hD hS hl
  obtain ⟨h1, h2, h3⟩ := hX
  have hI : I32 z := by unfold I32; omega
  refine va_sld hx hb h1 h2 h3 hS (vp_in_iff.mpr (by rw [iZ_toInt hI]; omega)) hd ?_
  have e1 : (iZ z).toNatClampNeg = j := by
    show (iZ z).toInt.toNat = j
    rw [iZ_toInt hI]; omega
  rw [e1, iZ_of (xs j)]
  exact k H locs ls hP hD hS hl
theorem n_slen {g : Gx} {K : Kx} {cs sl : Nat} {cc : ByteArray} {own : String} {n fr lo : Nat} {ws : va_W} {pc : Nat} {lv : List (Nat × Value)} {rest : List Value} {b L : Nat} {xs : Nat → Int32} (C : CX g K cc own n fr lo) (hX : LXK K b L xs) (hd : decode cc pc = .ok (.arraylength, 1)) (k : GN g K cs sl ws (pc + 1) lv (.int (iZ (L : Int)) :: rest)) : GN g K cs sl ws pc lv (.ref b :: rest) := by
  obtain ⟨p, e, R, s, m, args, below, meth, c, A, Q, nL⟩ := K
  obtain ⟨hx, hb, hml, hown, hts, hK, hlk, hA, hfr, hlo, hN, hn⟩ := C
  intro H locs ls hP hD hS hl
  obtain ⟨h1, h2, h3⟩ := hX
  refine va_slen hx hb h1 h2 h3 hS hd ?_
  have e1 : Int32.ofNat L = iZ (L : Int) := Int32.ofInt_eq_ofNat.symm
  rw [e1]
  exact k H locs ls hP hD hS hl
theorem n_iand {g : Gx} {K : Kx} {cs sl : Nat} {cc : ByteArray} {own : String} {n fr lo : Nat} {ws : va_W} {pc : Nat} {lv : List (Nat × Value)} {rest : List Value} {a b : Int} (C : CX g K cc own n fr lo) (hd : decode cc pc = .ok (.iand, 1)) (k : GN g K cs sl ws (pc + 1) lv (.int (iZ (iZ a &&& iZ b).toInt) :: rest)) : GN g K cs sl ws pc lv (.int (iZ b) :: .int (iZ a) :: rest) := by
  obtain ⟨p, e, R, s, m, args, below, meth, c, A, Q, nL⟩ := K
  obtain ⟨hx, hb, hml, hown, hts, hK, hlk, hA, hfr, hlo, hN, hn⟩ := C
  intro H locs ls hP hD hS hl
  refine lv_iand hx hb hd ?_
  rw [iZ_of (iZ a &&& iZ b)]
  exact k H locs ls hP hD hS hl
theorem n_isame {g : Gx} {K : Kx} {cs sl : Nat} {cc : ByteArray} {own : String} {n fr lo : Nat} {ws : va_W} {pc : Nat} {lv : List (Nat × Value)} {rest : List Value} {x : Int32} {off : Int} (tgt : Nat) (C : CX g K cc own n fr lo) (hd : decode cc pc = .ok (.if_icmp .eq off, 3)) (ht : (pc : Int) + off = (tgt : Int)) (k : GN g K cs sl ws tgt lv rest) : GN g K cs sl ws pc lv (.int x :: .int x :: rest) := by
  obtain ⟨p, e, R, s, m, args, below, meth, c, A, Q, nL⟩ := K
  obtain ⟨hx, hb, hml, hown, hts, hK, hlk, hA, hfr, hlo, hN, hn⟩ := C
  intro H locs ls hP hD hS hl
  exact lv_icmp_eq hx hb hd ht (fun _ => k H locs ls hP hD hS hl) (fun q => absurd rfl q)
theorem n_lsame {g : Gx} {K : Kx} {cs sl : Nat} {cc : ByteArray} {own : String} {n fr lo : Nat} {ws : va_W} {pc : Nat} {lv : List (Nat × Value)} {rest : List Value} {x : Int64} {off : Int} (tgt : Nat) (C : CX g K cc own n fr lo) (hd0 : decode cc pc = .ok (.lcmp, 1)) (hd : decode cc (pc + 1) = .ok (.ifCond .eq off, 3)) (ht : ((pc + 1 : Nat) : Int) + off = (tgt : Int)) (k : GN g K cs sl ws tgt lv rest) : GN g K cs sl ws pc lv (.long x :: .long x :: rest) := by
  obtain ⟨p, e, R, s, m, args, below, meth, c, A, Q, nL⟩ := K
  obtain ⟨hx, hb, hml, hown, hts, hK, hlk, hA, hfr, hlo, hN, hn⟩ := C
  intro H locs ls hP hD hS hl
  refine W.lcmp hx hb hd0 ?_
  exact lv_if_eq hx hb hd ht (fun _ => k H locs ls hP hD hS hl) (fun q => absurd ((lg_cmp_eq _ _).mpr rfl) q)
set_option maxHeartbeats 4000000 in
set_option maxRecDepth 20000 in
theorem law_joints {g : Gx} {K : Kx} {q q2 : Nat → Nat} {σ ρ : Nat → Nat → Int} {b L nn i : Nat} {xs : Nat → Int32} (hL : L ≤ 2560) (hi : i + 5 ≤ L) (C : CX g K cL_law RL 4 9 340) (hR : RM K 600000 7302250) (hX : LXK K b L xs) (hI : INV σ ρ nn) (hn : ∀ u v n', INV u v n' → GN g K 39 587 (WC g q u ++ WM g q2 v) 687 [(0, .ref b), (1, .ref (q 0)), (2, .ref (q2 0)), (3, .int (iZ (i : Int)))] []) : GN g K 39 587 (WC g q σ ++ WM g q2 ρ) 120 [(0, .ref b), (1, .ref (q 0)), (2, .ref (q2 0)), (3, .int (iZ (i : Int)))] [] := by
  refine n_aload_n 1 C rfl dL_law_120 rfl ?_
  refine n_aload_n 0 C rfl dL_law_121 rfl ?_
  refine n_iload_n 3 C rfl dL_law_122 rfl ?_
  refine n_iconst C dL_law_123 ?_
  refine n_iadd C dL_law_124 ?_
  refine n_sld (i + 1) C hX (by omega) (by omega) hL dL_law_125 ?_
  refine n_call (wc := WC g q σ) (wr := WM g q2 ρ) C hR ⟨by decide, by decide⟩ (c_X6_joints g (q := q) (σ := σ) (iZ_rng _)) gv_L_13 yd_X6_joints ⟨by decide, by decide⟩ 0 6 (WD_get (by decide)) rfl rfl (Nat.le_of_ble_eq_true rfl) dL_law_126 (fun v u hu => ?_)
  obtain ⟨z, rfl, hu⟩ := hu
  show GN g K 39 587 (WM g q2 ρ ++ WC g q u) 129 [(0, .ref b), (1, .ref (q 0)), (2, .ref (q2 0)), (3, .int (iZ (i : Int)))] [.int (iZ z)]
  refine n_aload_n 2 C rfl dL_law_129 rfl ?_
  refine n_aload_n 0 C rfl dL_law_130 rfl ?_
  refine n_iload_n 3 C rfl dL_law_131 rfl ?_
  refine n_iconst C dL_law_132 ?_
  refine n_iadd C dL_law_133 ?_
  refine n_sld (i + 1) C hX (by omega) (by omega) hL dL_law_134 ?_
  refine n_call (wc := WM g q2 ρ) (wr := WC g q u) C hR ⟨by decide, by decide⟩ (c_X7_joints g (q := q2) (σ := ρ) (iZ_rng _)) gv_L_17 yd_X7_joints ⟨by decide, by decide⟩ 0 7 (WD_get (by decide)) rfl rfl (Nat.le_of_ble_eq_true rfl) dL_law_135 (fun v2 u2 hu2 => ?_)
  obtain ⟨z2, rfl, hu2⟩ := hu2
  show GN g K 39 587 (WC g q u ++ WM g q2 u2) 138 [(0, .ref b), (1, .ref (q 0)), (2, .ref (q2 0)), (3, .int (iZ (i : Int)))] [.int (iZ z2), .int (iZ z)]
  obtain ⟨rfl, n2, hI2⟩ := pr_joints hI hu hu2
  exact n_isame 687 C dL_law_138 (by decide) (hn _ _ _ hI2)
set_option maxHeartbeats 4000000 in
set_option maxRecDepth 20000 in
theorem law_at {g : Gx} {K : Kx} {q q2 : Nat → Nat} {σ ρ : Nat → Nat → Int} {b L nn i : Nat} {xs : Nat → Int32} (hL : L ≤ 2560) (hi : i + 5 ≤ L) (C : CX g K cL_law RL 4 9 340) (hR : RM K 600000 7302250) (hX : LXK K b L xs) (hI : INV σ ρ nn) (hn : ∀ u v n', INV u v n' → GN g K 39 587 (WC g q u ++ WM g q2 v) 687 [(0, .ref b), (1, .ref (q 0)), (2, .ref (q2 0)), (3, .int (iZ (i : Int)))] []) : GN g K 39 587 (WC g q σ ++ WM g q2 ρ) 143 [(0, .ref b), (1, .ref (q 0)), (2, .ref (q2 0)), (3, .int (iZ (i : Int)))] [] := by
  refine n_aload_n 1 C rfl dL_law_143 rfl ?_
  refine n_aload_n 0 C rfl dL_law_144 rfl ?_
  refine n_iload_n 3 C rfl dL_law_145 rfl ?_
  refine n_iconst C dL_law_146 ?_
  refine n_iadd C dL_law_147 ?_
  refine n_sld (i + 1) C hX (by omega) (by omega) hL dL_law_148 ?_
  refine n_aload_n 0 C rfl dL_law_149 rfl ?_
  refine n_iload_n 3 C rfl dL_law_150 rfl ?_
  refine n_iconst C dL_law_151 ?_
  refine n_iadd C dL_law_152 ?_
  refine n_sld (i + 2) C hX (by omega) (by omega) hL dL_law_153 ?_
  refine n_call (wc := WC g q σ) (wr := WM g q2 ρ) C hR ⟨by decide, by decide⟩ (c_X6_at g (q := q) (σ := σ) hI.hs.1 hI.n.1 hI.n.2 hI.hs.hx (iZ_rng _) (iZ_rng _)) gv_L_18 yd_X6_at ⟨by decide, by decide⟩ 0 6 (WD_get (by decide)) rfl rfl (Nat.le_of_ble_eq_true rfl) dL_law_154 (fun v u hu => ?_)
  obtain ⟨z, rfl, hu⟩ := hu
  show GN g K 39 587 (WM g q2 ρ ++ WC g q u) 157 [(0, .ref b), (1, .ref (q 0)), (2, .ref (q2 0)), (3, .int (iZ (i : Int)))] [.int (iZ z)]
  refine n_aload_n 2 C rfl dL_law_157 rfl ?_
  refine n_aload_n 0 C rfl dL_law_158 rfl ?_
  refine n_iload_n 3 C rfl dL_law_159 rfl ?_
  refine n_iconst C dL_law_160 ?_
  refine n_iadd C dL_law_161 ?_
  refine n_sld (i + 1) C hX (by omega) (by omega) hL dL_law_162 ?_
  refine n_aload_n 0 C rfl dL_law_163 rfl ?_
  refine n_iload_n 3 C rfl dL_law_164 rfl ?_
  refine n_iconst C dL_law_165 ?_
  refine n_iadd C dL_law_166 ?_
  refine n_sld (i + 2) C hX (by omega) (by omega) hL dL_law_167 ?_
  refine n_call (wc := WM g q2 ρ) (wr := WC g q u) C hR ⟨by decide, by decide⟩ (c_X7_at g (q := q2) (σ := ρ) hI.2.1.2 hI.n.1 hI.n.2 hI.am.2.2.2.1 (iZ_rng _) (iZ_rng _)) gv_L_22 yd_X7_at ⟨by decide, by decide⟩ 0 7 (WD_get (by decide)) rfl rfl (Nat.le_of_ble_eq_true rfl) dL_law_168 (fun v2 u2 hu2 => ?_)
  obtain ⟨z2, rfl, hu2⟩ := hu2
  show GN g K 39 587 (WC g q u ++ WM g q2 u2) 171 [(0, .ref b), (1, .ref (q 0)), (2, .ref (q2 0)), (3, .int (iZ (i : Int)))] [.int (iZ z2), .int (iZ z)]
  obtain ⟨rfl, n2, hI2⟩ := pr_at hI hu hu2
  exact n_isame 687 C dL_law_171 (by decide) (hn _ _ _ hI2)
set_option maxHeartbeats 4000000 in
set_option maxRecDepth 20000 in
theorem law_edges {g : Gx} {K : Kx} {q q2 : Nat → Nat} {σ ρ : Nat → Nat → Int} {b L nn i : Nat} {xs : Nat → Int32} (hL : L ≤ 2560) (hi : i + 5 ≤ L) (C : CX g K cL_law RL 4 9 340) (hR : RM K 600000 7302250) (hX : LXK K b L xs) (hI : INV σ ρ nn) (hn : ∀ u v n', INV u v n' → GN g K 39 587 (WC g q u ++ WM g q2 v) 687 [(0, .ref b), (1, .ref (q 0)), (2, .ref (q2 0)), (3, .int (iZ (i : Int)))] []) : GN g K 39 587 (WC g q σ ++ WM g q2 ρ) 176 [(0, .ref b), (1, .ref (q 0)), (2, .ref (q2 0)), (3, .int (iZ (i : Int)))] [] := by
  refine n_aload_n 1 C rfl dL_law_176 rfl ?_
  refine n_aload_n 0 C rfl dL_law_177 rfl ?_
  refine n_iload_n 3 C rfl dL_law_178 rfl ?_
  refine n_iconst C dL_law_179 ?_
  refine n_iadd C dL_law_180 ?_
  refine n_sld (i + 1) C hX (by omega) (by omega) hL dL_law_181 ?_
  refine n_aload_n 0 C rfl dL_law_182 rfl ?_
  refine n_iload_n 3 C rfl dL_law_183 rfl ?_
  refine n_iconst C dL_law_184 ?_
  refine n_iadd C dL_law_185 ?_
  refine n_sld (i + 2) C hX (by omega) (by omega) hL dL_law_186 ?_
  refine n_aload_n 0 C rfl dL_law_187 rfl ?_
  refine n_iload_n 3 C rfl dL_law_188 rfl ?_
  refine n_iconst C dL_law_189 ?_
  refine n_iadd C dL_law_190 ?_
  refine n_sld (i + 3) C hX (by omega) (by omega) hL dL_law_191 ?_
  refine n_call (wc := WC g q σ) (wr := WM g q2 ρ) C hR ⟨by decide, by decide⟩ (c_X6_edges g (q := q) (σ := σ) hI.hs.1 hI.n.1 hI.n.2 (iZ_rng _) (iZ_rng _) (iZ_rng _)) gv_L_23 yd_X6_edges ⟨by decide, by decide⟩ 0 6 (WD_get (by decide)) rfl rfl (Nat.le_of_ble_eq_true rfl) dL_law_192 (fun v u hu => ?_)
  obtain ⟨z, rfl, hu⟩ := hu
  show GN g K 39 587 (WM g q2 ρ ++ WC g q u) 195 [(0, .ref b), (1, .ref (q 0)), (2, .ref (q2 0)), (3, .int (iZ (i : Int)))] [.int (iZ z)]
  refine n_aload_n 2 C rfl dL_law_195 rfl ?_
  refine n_aload_n 0 C rfl dL_law_196 rfl ?_
  refine n_iload_n 3 C rfl dL_law_197 rfl ?_
  refine n_iconst C dL_law_198 ?_
  refine n_iadd C dL_law_199 ?_
  refine n_sld (i + 1) C hX (by omega) (by omega) hL dL_law_200 ?_
  refine n_aload_n 0 C rfl dL_law_201 rfl ?_
  refine n_iload_n 3 C rfl dL_law_202 rfl ?_
  refine n_iconst C dL_law_203 ?_
  refine n_iadd C dL_law_204 ?_
  refine n_sld (i + 2) C hX (by omega) (by omega) hL dL_law_205 ?_
  refine n_aload_n 0 C rfl dL_law_206 rfl ?_
  refine n_iload_n 3 C rfl dL_law_207 rfl ?_
  refine n_iconst C dL_law_208 ?_
  refine n_iadd C dL_law_209 ?_
  refine n_sld (i + 3) C hX (by omega) (by omega) hL dL_law_210 ?_
  refine n_call (wc := WM g q2 ρ) (wr := WC g q u) C hR ⟨by decide, by decide⟩ (c_X7_edges g (q := q2) (σ := ρ) hI.2.1.2 hI.n.1 hI.n.2 (iZ_rng _) (iZ_rng _) (iZ_rng _)) gv_L_27 yd_X7_edges ⟨by decide, by decide⟩ 0 7 (WD_get (by decide)) rfl rfl (Nat.le_of_ble_eq_true rfl) dL_law_211 (fun v2 u2 hu2 => ?_)
  obtain ⟨z2, rfl, hu2⟩ := hu2
  show GN g K 39 587 (WC g q u ++ WM g q2 u2) 214 [(0, .ref b), (1, .ref (q 0)), (2, .ref (q2 0)), (3, .int (iZ (i : Int)))] [.int (iZ z2), .int (iZ z)]
  obtain ⟨rfl, n2, hI2⟩ := pr_edges hI hu hu2
  exact n_isame 687 C dL_law_214 (by decide) (hn _ _ _ hI2)
set_option maxHeartbeats 4000000 in
set_option maxRecDepth 20000 in
theorem law_load {g : Gx} {K : Kx} {q q2 : Nat → Nat} {σ ρ : Nat → Nat → Int} {b L nn i : Nat} {xs : Nat → Int32} (hL : L ≤ 2560) (hi : i + 5 ≤ L) (C : CX g K cL_law RL 4 9 340) (hR : RM K 600000 7302250) (hX : LXK K b L xs) (hI : INV σ ρ nn) (hn : ∀ u v n', INV u v n' → GN g K 39 587 (WC g q u ++ WM g q2 v) 687 [(0, .ref b), (1, .ref (q 0)), (2, .ref (q2 0)), (3, .int (iZ (i : Int)))] []) : GN g K 39 587 (WC g q σ ++ WM g q2 ρ) 219 [(0, .ref b), (1, .ref (q 0)), (2, .ref (q2 0)), (3, .int (iZ (i : Int)))] [] := by
  refine n_aload_n 1 C rfl dL_law_219 rfl ?_
  refine n_aload_n 0 C rfl dL_law_220 rfl ?_
  refine n_iload_n 3 C rfl dL_law_221 rfl ?_
  refine n_iconst C dL_law_222 ?_
  refine n_iadd C dL_law_223 ?_
  refine n_sld (i + 1) C hX (by omega) (by omega) hL dL_law_224 ?_
  refine n_aload_n 0 C rfl dL_law_225 rfl ?_
  refine n_iload_n 3 C rfl dL_law_226 rfl ?_
  refine n_iconst C dL_law_227 ?_
  refine n_iadd C dL_law_228 ?_
  refine n_sld (i + 2) C hX (by omega) (by omega) hL dL_law_229 ?_
  refine n_call (wc := WC g q σ) (wr := WM g q2 ρ) C hR ⟨by decide, by decide⟩ (c_X6_load g (q := q) (σ := σ) hI.hs.1 hI.n.1 hI.n.2 (iZ_rng _) (iZ_rng _)) gv_L_28 yd_X6_load ⟨by decide, by decide⟩ 0 6 (WD_get (by decide)) rfl rfl (Nat.le_of_ble_eq_true rfl) dL_law_230 (fun v u hu => ?_)
  obtain ⟨z, rfl, hu⟩ := hu
  show GN g K 39 587 (WM g q2 ρ ++ WC g q u) 233 [(0, .ref b), (1, .ref (q 0)), (2, .ref (q2 0)), (3, .int (iZ (i : Int)))] [.int (iZ z)]
  refine n_aload_n 2 C rfl dL_law_233 rfl ?_
  refine n_aload_n 0 C rfl dL_law_234 rfl ?_
  refine n_iload_n 3 C rfl dL_law_235 rfl ?_
  refine n_iconst C dL_law_236 ?_
  refine n_iadd C dL_law_237 ?_
  refine n_sld (i + 1) C hX (by omega) (by omega) hL dL_law_238 ?_
  refine n_aload_n 0 C rfl dL_law_239 rfl ?_
  refine n_iload_n 3 C rfl dL_law_240 rfl ?_
  refine n_iconst C dL_law_241 ?_
  refine n_iadd C dL_law_242 ?_
  refine n_sld (i + 2) C hX (by omega) (by omega) hL dL_law_243 ?_
  refine n_call (wc := WM g q2 ρ) (wr := WC g q u) C hR ⟨by decide, by decide⟩ (c_X7_load g (q := q2) (σ := ρ) hI.2.1.2 hI.n.1 hI.n.2 (iZ_rng _) (iZ_rng _)) gv_L_31 yd_X7_load ⟨by decide, by decide⟩ 0 7 (WD_get (by decide)) rfl rfl (Nat.le_of_ble_eq_true rfl) dL_law_244 (fun v2 u2 hu2 => ?_)
  obtain ⟨z2, rfl, hu2⟩ := hu2
  show GN g K 39 587 (WC g q u ++ WM g q2 u2) 247 [(0, .ref b), (1, .ref (q 0)), (2, .ref (q2 0)), (3, .int (iZ (i : Int)))] [.int (iZ z2), .int (iZ z)]
  obtain ⟨rfl, n2, hI2⟩ := pr_load hI hu hu2
  exact n_isame 687 C dL_law_247 (by decide) (hn _ _ _ hI2)
set_option maxHeartbeats 4000000 in
set_option maxRecDepth 20000 in
theorem law_sheet {g : Gx} {K : Kx} {q q2 : Nat → Nat} {σ ρ : Nat → Nat → Int} {b L nn i : Nat} {xs : Nat → Int32} (hL : L ≤ 2560) (hi : i + 5 ≤ L) (C : CX g K cL_law RL 4 9 340) (hR : RM K 600000 7302250) (hX : LXK K b L xs) (hI : INV σ ρ nn) (hn : ∀ u v n', INV u v n' → GN g K 39 587 (WC g q u ++ WM g q2 v) 687 [(0, .ref b), (1, .ref (q 0)), (2, .ref (q2 0)), (3, .int (iZ (i : Int)))] []) : GN g K 39 587 (WC g q σ ++ WM g q2 ρ) 252 [(0, .ref b), (1, .ref (q 0)), (2, .ref (q2 0)), (3, .int (iZ (i : Int)))] [] := by
  refine n_aload_n 1 C rfl dL_law_252 rfl ?_
  refine n_aload_n 0 C rfl dL_law_253 rfl ?_
  refine n_iload_n 3 C rfl dL_law_254 rfl ?_
  refine n_iconst C dL_law_255 ?_
  refine n_iadd C dL_law_256 ?_
  refine n_sld (i + 1) C hX (by omega) (by omega) hL dL_law_257 ?_
  refine n_aload_n 0 C rfl dL_law_258 rfl ?_
  refine n_iload_n 3 C rfl dL_law_259 rfl ?_
  refine n_iconst C dL_law_260 ?_
  refine n_iadd C dL_law_261 ?_
  refine n_sld (i + 2) C hX (by omega) (by omega) hL dL_law_262 ?_
  refine n_aload_n 0 C rfl dL_law_263 rfl ?_
  refine n_iload_n 3 C rfl dL_law_264 rfl ?_
  refine n_iconst C dL_law_265 ?_
  refine n_iadd C dL_law_266 ?_
  refine n_sld (i + 3) C hX (by omega) (by omega) hL dL_law_267 ?_
  refine n_call (wc := WC g q σ) (wr := WM g q2 ρ) C hR ⟨by decide, by decide⟩ (c_X6_sheet g (q := q) (σ := σ) (iZ_rng _) (iZ_rng _) (iZ_rng _)) gv_L_32 yd_X6_sheet ⟨by decide, by decide⟩ 0 6 (WD_get (by decide)) rfl rfl (Nat.le_of_ble_eq_true rfl) dL_law_268 (fun v u hu => ?_)
  obtain ⟨z, rfl, hu⟩ := hu
  show GN g K 39 587 (WM g q2 ρ ++ WC g q u) 271 [(0, .ref b), (1, .ref (q 0)), (2, .ref (q2 0)), (3, .int (iZ (i : Int)))] [.int (iZ z)]
  refine n_aload_n 2 C rfl dL_law_271 rfl ?_
  refine n_aload_n 0 C rfl dL_law_272 rfl ?_
  refine n_iload_n 3 C rfl dL_law_273 rfl ?_
  refine n_iconst C dL_law_274 ?_
  refine n_iadd C dL_law_275 ?_
  refine n_sld (i + 1) C hX (by omega) (by omega) hL dL_law_276 ?_
  refine n_aload_n 0 C rfl dL_law_277 rfl ?_
  refine n_iload_n 3 C rfl dL_law_278 rfl ?_
  refine n_iconst C dL_law_279 ?_
  refine n_iadd C dL_law_280 ?_
  refine n_sld (i + 2) C hX (by omega) (by omega) hL dL_law_281 ?_
  refine n_aload_n 0 C rfl dL_law_282 rfl ?_
  refine n_iload_n 3 C rfl dL_law_283 rfl ?_
  refine n_iconst C dL_law_284 ?_
  refine n_iadd C dL_law_285 ?_
  refine n_sld (i + 3) C hX (by omega) (by omega) hL dL_law_286 ?_
  refine n_call (wc := WM g q2 ρ) (wr := WC g q u) C hR ⟨by decide, by decide⟩ (c_X7_sheet g (q := q2) (σ := ρ) (iZ_rng _) (iZ_rng _) (iZ_rng _)) gv_L_35 yd_X7_sheet ⟨by decide, by decide⟩ 0 7 (WD_get (by decide)) rfl rfl (Nat.le_of_ble_eq_true rfl) dL_law_287 (fun v2 u2 hu2 => ?_)
  obtain ⟨z2, rfl, hu2⟩ := hu2
  show GN g K 39 587 (WC g q u ++ WM g q2 u2) 290 [(0, .ref b), (1, .ref (q 0)), (2, .ref (q2 0)), (3, .int (iZ (i : Int)))] [.int (iZ z2), .int (iZ z)]
  obtain ⟨rfl, n2, hI2⟩ := pr_sheet hI hu hu2
  exact n_isame 687 C dL_law_290 (by decide) (hn _ _ _ hI2)
set_option maxHeartbeats 4000000 in
set_option maxRecDepth 20000 in
theorem law_drop {g : Gx} {K : Kx} {q q2 : Nat → Nat} {σ ρ : Nat → Nat → Int} {b L nn i : Nat} {xs : Nat → Int32} (hL : L ≤ 2560) (hi : i + 5 ≤ L) (C : CX g K cL_law RL 4 9 340) (hR : RM K 600000 7302250) (hX : LXK K b L xs) (hI : INV σ ρ nn) (hn : ∀ u v n', INV u v n' → GN g K 39 587 (WC g q u ++ WM g q2 v) 687 [(0, .ref b), (1, .ref (q 0)), (2, .ref (q2 0)), (3, .int (iZ (i : Int)))] []) : GN g K 39 587 (WC g q σ ++ WM g q2 ρ) 295 [(0, .ref b), (1, .ref (q 0)), (2, .ref (q2 0)), (3, .int (iZ (i : Int)))] [] := by
  refine n_aload_n 1 C rfl dL_law_295 rfl ?_
  refine n_aload_n 0 C rfl dL_law_296 rfl ?_
  refine n_iload_n 3 C rfl dL_law_297 rfl ?_
  refine n_iconst C dL_law_298 ?_
  refine n_iadd C dL_law_299 ?_
  refine n_sld (i + 1) C hX (by omega) (by omega) hL dL_law_300 ?_
  refine n_call (wc := WC g q σ) (wr := WM g q2 ρ) C hR ⟨by decide, by decide⟩ (c_X6_drop g (q := q) (σ := σ) hI.2.2.2.2.1 (iZ_rng _)) gv_L_36 yd_X6_drop ⟨by decide, by decide⟩ 0 6 (WD_get (by decide)) rfl rfl (Nat.le_of_ble_eq_true rfl) dL_law_301 (fun v u hu => ?_)
  obtain ⟨z, rfl, hu⟩ := hu
  show GN g K 39 587 (WM g q2 ρ ++ WC g q u) 304 [(0, .ref b), (1, .ref (q 0)), (2, .ref (q2 0)), (3, .int (iZ (i : Int)))] [.int (iZ z)]
  refine n_aload_n 2 C rfl dL_law_304 rfl ?_
  refine n_aload_n 0 C rfl dL_law_305 rfl ?_
  refine n_iload_n 3 C rfl dL_law_306 rfl ?_
  refine n_iconst C dL_law_307 ?_
  refine n_iadd C dL_law_308 ?_
  refine n_sld (i + 1) C hX (by omega) (by omega) hL dL_law_309 ?_
  refine n_call (wc := WM g q2 ρ) (wr := WC g q u) C hR ⟨by decide, by decide⟩ (c_X7_drop g (q := q2) (σ := ρ) hI.2.2.2.2.ln hI.2.2.2.2.sz (iZ_rng _)) gv_L_39 yd_X7_drop ⟨by decide, by decide⟩ 0 7 (WD_get (by decide)) rfl rfl (Nat.le_of_ble_eq_true rfl) dL_law_310 (fun v2 u2 hu2 => ?_)
  obtain ⟨z2, rfl, hu2⟩ := hu2
  show GN g K 39 587 (WC g q u ++ WM g q2 u2) 313 [(0, .ref b), (1, .ref (q 0)), (2, .ref (q2 0)), (3, .int (iZ (i : Int)))] [.int (iZ z2), .int (iZ z)]
  obtain ⟨rfl, n2, hI2⟩ := pr_drop hI hu hu2
  exact n_isame 687 C dL_law_313 (by decide) (hn _ _ _ hI2)
set_option maxHeartbeats 4000000 in
set_option maxRecDepth 20000 in
theorem law_item {g : Gx} {K : Kx} {q q2 : Nat → Nat} {σ ρ : Nat → Nat → Int} {b L nn i : Nat} {xs : Nat → Int32} (hL : L ≤ 2560) (hi : i + 5 ≤ L) (C : CX g K cL_law RL 4 9 340) (hR : RM K 600000 7302250) (hX : LXK K b L xs) (hI : INV σ ρ nn) (hn : ∀ u v n', INV u v n' → GN g K 39 587 (WC g q u ++ WM g q2 v) 687 [(0, .ref b), (1, .ref (q 0)), (2, .ref (q2 0)), (3, .int (iZ (i : Int)))] []) : GN g K 39 587 (WC g q σ ++ WM g q2 ρ) 318 [(0, .ref b), (1, .ref (q 0)), (2, .ref (q2 0)), (3, .int (iZ (i : Int)))] [] := by
  refine n_aload_n 1 C rfl dL_law_318 rfl ?_
  refine n_aload_n 0 C rfl dL_law_319 rfl ?_
  refine n_iload_n 3 C rfl dL_law_320 rfl ?_
  refine n_iconst C dL_law_321 ?_
  refine n_iadd C dL_law_322 ?_
  refine n_sld (i + 1) C hX (by omega) (by omega) hL dL_law_323 ?_
  refine n_aload_n 0 C rfl dL_law_324 rfl ?_
  refine n_iload_n 3 C rfl dL_law_325 rfl ?_
  refine n_iconst C dL_law_326 ?_
  refine n_iadd C dL_law_327 ?_
  refine n_sld (i + 2) C hX (by omega) (by omega) hL dL_law_328 ?_
  refine n_aload_n 0 C rfl dL_law_329 rfl ?_
  refine n_iload_n 3 C rfl dL_law_330 rfl ?_
  refine n_iconst C dL_law_331 ?_
  refine n_iadd C dL_law_332 ?_
  refine n_sld (i + 3) C hX (by omega) (by omega) hL dL_law_333 ?_
  refine n_aload_n 0 C rfl dL_law_334 rfl ?_
  refine n_iload_n 3 C rfl dL_law_335 rfl ?_
  refine n_iconst C dL_law_336 ?_
  refine n_iadd C dL_law_337 ?_
  refine n_sld (i + 4) C hX (by omega) (by omega) hL dL_law_338 ?_
  refine n_call (wc := WC g q σ) (wr := WM g q2 ρ) C hR ⟨by decide, by decide⟩ (c_X6_item g (q := q) (σ := σ) hI.2.2.2.2.1 (iZ_rng _) (iZ_rng _) (iZ_rng _) (iZ_rng _)) gv_L_40 yd_X6_item ⟨by decide, by decide⟩ 0 6 (WD_get (by decide)) rfl rfl (Nat.le_of_ble_eq_true rfl) dL_law_339 (fun v u hu => ?_)
  obtain ⟨z, rfl, hu⟩ := hu
  show GN g K 39 587 (WM g q2 ρ ++ WC g q u) 342 [(0, .ref b), (1, .ref (q 0)), (2, .ref (q2 0)), (3, .int (iZ (i : Int)))] [.int (iZ z)]
  refine n_aload_n 2 C rfl dL_law_342 rfl ?_
  refine n_aload_n 0 C rfl dL_law_343 rfl ?_
  refine n_iload_n 3 C rfl dL_law_344 rfl ?_
  refine n_iconst C dL_law_345 ?_
  refine n_iadd C dL_law_346 ?_
  refine n_sld (i + 1) C hX (by omega) (by omega) hL dL_law_347 ?_
  refine n_aload_n 0 C rfl dL_law_348 rfl ?_
  refine n_iload_n 3 C rfl dL_law_349 rfl ?_
  refine n_iconst C dL_law_350 ?_
  refine n_iadd C dL_law_351 ?_
  refine n_sld (i + 2) C hX (by omega) (by omega) hL dL_law_352 ?_
  refine n_aload_n 0 C rfl dL_law_353 rfl ?_
  refine n_iload_n 3 C rfl dL_law_354 rfl ?_
  refine n_iconst C dL_law_355 ?_
  refine n_iadd C dL_law_356 ?_
  refine n_sld (i + 3) C hX (by omega) (by omega) hL dL_law_357 ?_
  refine n_aload_n 0 C rfl dL_law_358 rfl ?_
  refine n_iload_n 3 C rfl dL_law_359 rfl ?_
  refine n_iconst C dL_law_360 ?_
  refine n_iadd C dL_law_361 ?_
  refine n_sld (i + 4) C hX (by omega) (by omega) hL dL_law_362 ?_
  refine n_call (wc := WM g q2 ρ) (wr := WC g q u) C hR ⟨by decide, by decide⟩ (c_X7_item g (q := q2) (σ := ρ) hI.2.2.2.2.ln hI.2.2.2.2.sz (iZ_rng _) (iZ_rng _) (iZ_rng _) (iZ_rng _)) gv_L_44 yd_X7_item ⟨by decide, by decide⟩ 0 7 (WD_get (by decide)) rfl rfl (Nat.le_of_ble_eq_true rfl) dL_law_363 (fun v2 u2 hu2 => ?_)
  obtain ⟨z2, rfl, hu2⟩ := hu2
  show GN g K 39 587 (WC g q u ++ WM g q2 u2) 366 [(0, .ref b), (1, .ref (q 0)), (2, .ref (q2 0)), (3, .int (iZ (i : Int)))] [.int (iZ z2), .int (iZ z)]
  obtain ⟨rfl, n2, hI2⟩ := pr_item hI (iZ_rng _) hu hu2
  exact n_isame 687 C dL_law_366 (by decide) (hn _ _ _ hI2)
set_option maxHeartbeats 4000000 in
set_option maxRecDepth 20000 in
theorem law_read {g : Gx} {K : Kx} {q q2 : Nat → Nat} {σ ρ : Nat → Nat → Int} {b L nn i : Nat} {xs : Nat → Int32} (hL : L ≤ 2560) (hi : i + 5 ≤ L) (C : CX g K cL_law RL 4 9 340) (hR : RM K 600000 7302250) (hX : LXK K b L xs) (hI : INV σ ρ nn) (hn : ∀ u v n', INV u v n' → GN g K 39 587 (WC g q u ++ WM g q2 v) 687 [(0, .ref b), (1, .ref (q 0)), (2, .ref (q2 0)), (3, .int (iZ (i : Int)))] []) : GN g K 39 587 (WC g q σ ++ WM g q2 ρ) 371 [(0, .ref b), (1, .ref (q 0)), (2, .ref (q2 0)), (3, .int (iZ (i : Int)))] [] := by
  refine n_aload_n 1 C rfl dL_law_371 rfl ?_
  refine n_aload_n 0 C rfl dL_law_372 rfl ?_
  refine n_iload_n 3 C rfl dL_law_373 rfl ?_
  refine n_iconst C dL_law_374 ?_
  refine n_iadd C dL_law_375 ?_
  refine n_sld (i + 1) C hX (by omega) (by omega) hL dL_law_376 ?_
  refine n_aload_n 0 C rfl dL_law_377 rfl ?_
  refine n_iload_n 3 C rfl dL_law_378 rfl ?_
  refine n_iconst C dL_law_379 ?_
  refine n_iadd C dL_law_380 ?_
  refine n_sld (i + 2) C hX (by omega) (by omega) hL dL_law_381 ?_
  refine n_aload_n 0 C rfl dL_law_382 rfl ?_
  refine n_iload_n 3 C rfl dL_law_383 rfl ?_
  refine n_iconst C dL_law_384 ?_
  refine n_iadd C dL_law_385 ?_
  refine n_sld (i + 3) C hX (by omega) (by omega) hL dL_law_386 ?_
  refine n_call (wc := WC g q σ) (wr := WM g q2 ρ) C hR ⟨by decide, by decide⟩ (c_X6_read g (q := q) (σ := σ) hI.hs.1 hI.n.1 hI.n.2 hI.2.2.2.2.1 (fun s hs j hj => (hI.2.2.2.2.2.2 s hs j hj).2) (iZ_rng _) (iZ_rng _) (iZ_rng _)) gv_L_45 yd_X6_read ⟨by decide, by decide⟩ 0 6 (WD_get (by decide)) rfl rfl (Nat.le_of_ble_eq_true rfl) dL_law_387 (fun v u hu => ?_)
  obtain ⟨z, rfl, hu⟩ := hu
  show GN g K 39 587 (WM g q2 ρ ++ WC g q u) 390 [(0, .ref b), (1, .ref (q 0)), (2, .ref (q2 0)), (3, .int (iZ (i : Int)))] [.int (iZ z)]
  refine n_aload_n 2 C rfl dL_law_390 rfl ?_
  refine n_aload_n 0 C rfl dL_law_391 rfl ?_
  refine n_iload_n 3 C rfl dL_law_392 rfl ?_
  refine n_iconst C dL_law_393 ?_
  refine n_iadd C dL_law_394 ?_
  refine n_sld (i + 1) C hX (by omega) (by omega) hL dL_law_395 ?_
  refine n_aload_n 0 C rfl dL_law_396 rfl ?_
  refine n_iload_n 3 C rfl dL_law_397 rfl ?_
  refine n_iconst C dL_law_398 ?_
  refine n_iadd C dL_law_399 ?_
  refine n_sld (i + 2) C hX (by omega) (by omega) hL dL_law_400 ?_
  refine n_aload_n 0 C rfl dL_law_401 rfl ?_
  refine n_iload_n 3 C rfl dL_law_402 rfl ?_
  refine n_iconst C dL_law_403 ?_
  refine n_iadd C dL_law_404 ?_
  refine n_sld (i + 3) C hX (by omega) (by omega) hL dL_law_405 ?_
  refine n_call (wc := WM g q2 ρ) (wr := WC g q u) C hR ⟨by decide, by decide⟩ (c_X7_read g (q := q2) (σ := ρ) hI.2.1.2 hI.n.1 hI.n.2 hI.2.2.2.2.ln hI.2.2.2.2.sz hI.2.2.2.2.it (iZ_rng _) (iZ_rng _) (iZ_rng _)) gv_L_48 yd_X7_read ⟨by decide, by decide⟩ 0 7 (WD_get (by decide)) rfl rfl (Nat.le_of_ble_eq_true rfl) dL_law_406 (fun v2 u2 hu2 => ?_)
  obtain ⟨z2, rfl, hu2⟩ := hu2
  show GN g K 39 587 (WC g q u ++ WM g q2 u2) 409 [(0, .ref b), (1, .ref (q 0)), (2, .ref (q2 0)), (3, .int (iZ (i : Int)))] [.int (iZ z2), .int (iZ z)]
  obtain ⟨rfl, n2, hI2⟩ := pr_read hI hu hu2
  exact n_isame 687 C dL_law_409 (by decide) (hn _ _ _ hI2)
set_option maxHeartbeats 4000000 in
set_option maxRecDepth 20000 in
theorem law_told {g : Gx} {K : Kx} {q q2 : Nat → Nat} {σ ρ : Nat → Nat → Int} {b L nn i : Nat} {xs : Nat → Int32} (hL : L ≤ 2560) (hi : i + 5 ≤ L) (C : CX g K cL_law RL 4 9 340) (hR : RM K 600000 7302250) (hX : LXK K b L xs) (hI : INV σ ρ nn) (hn : ∀ u v n', INV u v n' → GN g K 39 587 (WC g q u ++ WM g q2 v) 687 [(0, .ref b), (1, .ref (q 0)), (2, .ref (q2 0)), (3, .int (iZ (i : Int)))] []) : GN g K 39 587 (WC g q σ ++ WM g q2 ρ) 414 [(0, .ref b), (1, .ref (q 0)), (2, .ref (q2 0)), (3, .int (iZ (i : Int)))] [] := by
  refine n_aload_n 1 C rfl dL_law_414 rfl ?_
  refine n_aload_n 0 C rfl dL_law_415 rfl ?_
  refine n_iload_n 3 C rfl dL_law_416 rfl ?_
  refine n_iconst C dL_law_417 ?_
  refine n_iadd C dL_law_418 ?_
  refine n_sld (i + 1) C hX (by omega) (by omega) hL dL_law_419 ?_
  refine n_aload_n 0 C rfl dL_law_420 rfl ?_
  refine n_iload_n 3 C rfl dL_law_421 rfl ?_
  refine n_iconst C dL_law_422 ?_
  refine n_iadd C dL_law_423 ?_
  refine n_sld (i + 2) C hX (by omega) (by omega) hL dL_law_424 ?_
  refine n_call (wc := WC g q σ) (wr := WM g q2 ρ) C hR ⟨by decide, by decide⟩ (c_X6_told g (q := q) (σ := σ) hI.hs.1 hI.n.1 hI.n.2 (iZ_rng _) (iZ_rng _)) gv_L_49 yd_X6_told ⟨by decide, by decide⟩ 0 6 (WD_get (by decide)) rfl rfl (Nat.le_of_ble_eq_true rfl) dL_law_425 (fun v u hu => ?_)
  obtain ⟨z, rfl, hu⟩ := hu
  show GN g K 39 587 (WM g q2 ρ ++ WC g q u) 428 [(0, .ref b), (1, .ref (q 0)), (2, .ref (q2 0)), (3, .int (iZ (i : Int)))] [.int (iZ z)]
  refine n_aload_n 2 C rfl dL_law_428 rfl ?_
  refine n_aload_n 0 C rfl dL_law_429 rfl ?_
  refine n_iload_n 3 C rfl dL_law_430 rfl ?_
  refine n_iconst C dL_law_431 ?_
  refine n_iadd C dL_law_432 ?_
  refine n_sld (i + 1) C hX (by omega) (by omega) hL dL_law_433 ?_
  refine n_aload_n 0 C rfl dL_law_434 rfl ?_
  refine n_iload_n 3 C rfl dL_law_435 rfl ?_
  refine n_iconst C dL_law_436 ?_
  refine n_iadd C dL_law_437 ?_
  refine n_sld (i + 2) C hX (by omega) (by omega) hL dL_law_438 ?_
  refine n_call (wc := WM g q2 ρ) (wr := WC g q u) C hR ⟨by decide, by decide⟩ (c_X7_told g (q := q2) (σ := ρ) hI.2.1.2 hI.n.1 hI.n.2 (iZ_rng _) (iZ_rng _)) gv_L_52 yd_X7_told ⟨by decide, by decide⟩ 0 7 (WD_get (by decide)) rfl rfl (Nat.le_of_ble_eq_true rfl) dL_law_439 (fun v2 u2 hu2 => ?_)
  obtain ⟨z2, rfl, hu2⟩ := hu2
  show GN g K 39 587 (WC g q u ++ WM g q2 ρ) 442 [(0, .ref b), (1, .ref (q 0)), (2, .ref (q2 0)), (3, .int (iZ (i : Int)))] [.int (iZ z2), .int (iZ z)]
  obtain ⟨rfl, n2, hI2⟩ := pr_told hI hu hu2
  exact n_isame 687 C dL_law_442 (by decide) (hn _ _ _ hI2)
set_option maxHeartbeats 4000000 in
set_option maxRecDepth 20000 in
theorem law_stands {g : Gx} {K : Kx} {q q2 : Nat → Nat} {σ ρ : Nat → Nat → Int} {b L nn i : Nat} {xs : Nat → Int32} (hL : L ≤ 2560) (hi : i + 5 ≤ L) (C : CX g K cL_law RL 4 9 340) (hR : RM K 600000 7302250) (hX : LXK K b L xs) (hI : INV σ ρ nn) (hn : ∀ u v n', INV u v n' → GN g K 39 587 (WC g q u ++ WM g q2 v) 687 [(0, .ref b), (1, .ref (q 0)), (2, .ref (q2 0)), (3, .int (iZ (i : Int)))] []) : GN g K 39 587 (WC g q σ ++ WM g q2 ρ) 447 [(0, .ref b), (1, .ref (q 0)), (2, .ref (q2 0)), (3, .int (iZ (i : Int)))] [] := by
  refine n_aload_n 1 C rfl dL_law_447 rfl ?_
  refine n_call (wc := WC g q σ) (wr := WM g q2 ρ) C hR ⟨by decide, by decide⟩ (c_X6_stands g (q := q) (σ := σ) hI.hs) gv_L_53 yd_X6_stands ⟨by decide, by decide⟩ 0 6 (WD_get (by decide)) rfl rfl (Nat.le_of_ble_eq_true rfl) dL_law_448 (fun v u hu => ?_)
  obtain ⟨z, rfl, hu⟩ := hu
  show GN g K 39 587 (WM g q2 ρ ++ WC g q u) 451 [(0, .ref b), (1, .ref (q 0)), (2, .ref (q2 0)), (3, .int (iZ (i : Int)))] [.int (iZ z)]
  refine n_aload_n 2 C rfl dL_law_451 rfl ?_
  refine n_call (wc := WM g q2 ρ) (wr := WC g q u) C hR ⟨by decide, by decide⟩ (c_X7_stands g (q := q2) (σ := ρ) hI.am) gv_L_57 yd_X7_stands ⟨by decide, by decide⟩ 0 7 (WD_get (by decide)) rfl rfl (Nat.le_of_ble_eq_true rfl) dL_law_452 (fun v2 u2 hu2 => ?_)
  obtain ⟨z2, rfl, hu2⟩ := hu2
  show GN g K 39 587 (WC g q u ++ WM g q2 u2) 455 [(0, .ref b), (1, .ref (q 0)), (2, .ref (q2 0)), (3, .int (iZ (i : Int)))] [.int (iZ z2), .int (iZ z)]
  obtain ⟨rfl, n2, hI2⟩ := pr_stands hI hu hu2
  exact n_isame 687 C dL_law_455 (by decide) (hn _ _ _ hI2)
set_option maxHeartbeats 4000000 in
set_option maxRecDepth 20000 in
theorem law_thrust {g : Gx} {K : Kx} {q q2 : Nat → Nat} {σ ρ : Nat → Nat → Int} {b L nn i : Nat} {xs : Nat → Int32} (hL : L ≤ 2560) (hi : i + 5 ≤ L) (C : CX g K cL_law RL 4 9 340) (hR : RM K 600000 7302250) (hX : LXK K b L xs) (hI : INV σ ρ nn) (hn : ∀ u v n', INV u v n' → GN g K 39 587 (WC g q u ++ WM g q2 v) 687 [(0, .ref b), (1, .ref (q 0)), (2, .ref (q2 0)), (3, .int (iZ (i : Int)))] []) : GN g K 39 587 (WC g q σ ++ WM g q2 ρ) 460 [(0, .ref b), (1, .ref (q 0)), (2, .ref (q2 0)), (3, .int (iZ (i : Int)))] [] := by
  refine n_aload_n 1 C rfl dL_law_460 rfl ?_
  refine n_aload_n 0 C rfl dL_law_461 rfl ?_
  refine n_iload_n 3 C rfl dL_law_462 rfl ?_
  refine n_iconst C dL_law_463 ?_
  refine n_iadd C dL_law_464 ?_
  refine n_sld (i + 1) C hX (by omega) (by omega) hL dL_law_465 ?_
  refine n_aload_n 0 C rfl dL_law_466 rfl ?_
  refine n_iload_n 3 C rfl dL_law_467 rfl ?_
  refine n_iconst C dL_law_468 ?_
  refine n_iadd C dL_law_469 ?_
  refine n_sld (i + 2) C hX (by omega) (by omega) hL dL_law_470 ?_
  refine n_call (wc := WC g q σ) (wr := WM g q2 ρ) C hR ⟨by decide, by decide⟩ (c_X6_thrust g (q := q) (σ := σ) hI.hs (iZ_rng _) (iZ_rng _)) gv_L_58 yd_X6_thrust ⟨by decide, by decide⟩ 0 6 (WD_get (by decide)) rfl rfl (Nat.le_of_ble_eq_true rfl) dL_law_471 (fun v u hu => ?_)
  obtain ⟨z, rfl, hu⟩ := hu
  show GN g K 39 587 (WM g q2 ρ ++ WC g q u) 474 [(0, .ref b), (1, .ref (q 0)), (2, .ref (q2 0)), (3, .int (iZ (i : Int)))] [.long (lZ z)]
  refine n_aload_n 2 C rfl dL_law_474 rfl ?_
  refine n_aload_n 0 C rfl dL_law_475 rfl ?_
  refine n_iload_n 3 C rfl dL_law_476 rfl ?_
  refine n_iconst C dL_law_477 ?_
  refine n_iadd C dL_law_478 ?_
  refine n_sld (i + 1) C hX (by omega) (by omega) hL dL_law_479 ?_
  refine n_aload_n 0 C rfl dL_law_480 rfl ?_
  refine n_iload_n 3 C rfl dL_law_481 rfl ?_
  refine n_iconst C dL_law_482 ?_
  refine n_iadd C dL_law_483 ?_
  refine n_sld (i + 2) C hX (by omega) (by omega) hL dL_law_484 ?_
  refine n_call (wc := WM g q2 ρ) (wr := WC g q u) C hR ⟨by decide, by decide⟩ (c_X7_thrust g (q := q2) (σ := ρ) (iZ_rng _) (iZ_rng _) hI.am) gv_L_62 yd_X7_thrust ⟨by decide, by decide⟩ 0 7 (WD_get (by decide)) rfl rfl (Nat.le_of_ble_eq_true rfl) dL_law_485 (fun v2 u2 hu2 => ?_)
  obtain ⟨z2, rfl, hu2⟩ := hu2
  show GN g K 39 587 (WC g q u ++ WM g q2 u2) 488 [(0, .ref b), (1, .ref (q 0)), (2, .ref (q2 0)), (3, .int (iZ (i : Int)))] [.long (lZ z2), .long (lZ z)]
  obtain ⟨rfl, n2, hI2⟩ := pr_thrust hI hu hu2
  exact n_lsame 687 C dL_law_488 dL_law_489 (by decide) (hn _ _ _ hI2)
set_option maxHeartbeats 4000000 in
set_option maxRecDepth 20000 in
theorem law_height {g : Gx} {K : Kx} {q q2 : Nat → Nat} {σ ρ : Nat → Nat → Int} {b L nn i : Nat} {xs : Nat → Int32} (hL : L ≤ 2560) (hi : i + 5 ≤ L) (C : CX g K cL_law RL 4 9 340) (hR : RM K 600000 7302250) (hX : LXK K b L xs) (hI : INV σ ρ nn) (hn : ∀ u v n', INV u v n' → GN g K 39 587 (WC g q u ++ WM g q2 v) 687 [(0, .ref b), (1, .ref (q 0)), (2, .ref (q2 0)), (3, .int (iZ (i : Int)))] []) : GN g K 39 587 (WC g q σ ++ WM g q2 ρ) 494 [(0, .ref b), (1, .ref (q 0)), (2, .ref (q2 0)), (3, .int (iZ (i : Int)))] [] := by
  refine n_aload_n 1 C rfl dL_law_494 rfl ?_
  refine n_aload_n 0 C rfl dL_law_495 rfl ?_
  refine n_iload_n 3 C rfl dL_law_496 rfl ?_
  refine n_iconst C dL_law_497 ?_
  refine n_iadd C dL_law_498 ?_
  refine n_sld (i + 1) C hX (by omega) (by omega) hL dL_law_499 ?_
  refine n_aload_n 0 C rfl dL_law_500 rfl ?_
  refine n_iload_n 3 C rfl dL_law_501 rfl ?_
  refine n_iconst C dL_law_502 ?_
  refine n_iadd C dL_law_503 ?_
  refine n_sld (i + 2) C hX (by omega) (by omega) hL dL_law_504 ?_
  refine n_call (wc := WC g q σ) (wr := WM g q2 ρ) C hR ⟨by decide, by decide⟩ (c_X6_height g (q := q) (σ := σ) hI.hs (iZ_rng _) (iZ_rng _)) gv_L_63 yd_X6_height ⟨by decide, by decide⟩ 0 6 (WD_get (by decide)) rfl rfl (Nat.le_of_ble_eq_true rfl) dL_law_505 (fun v u hu => ?_)
  obtain ⟨z, rfl, hu⟩ := hu
  show GN g K 39 587 (WM g q2 ρ ++ WC g q u) 508 [(0, .ref b), (1, .ref (q 0)), (2, .ref (q2 0)), (3, .int (iZ (i : Int)))] [.long (lZ z)]
  refine n_aload_n 2 C rfl dL_law_508 rfl ?_
  refine n_aload_n 0 C rfl dL_law_509 rfl ?_
  refine n_iload_n 3 C rfl dL_law_510 rfl ?_
  refine n_iconst C dL_law_511 ?_
  refine n_iadd C dL_law_512 ?_
  refine n_sld (i + 1) C hX (by omega) (by omega) hL dL_law_513 ?_
  refine n_aload_n 0 C rfl dL_law_514 rfl ?_
  refine n_iload_n 3 C rfl dL_law_515 rfl ?_
  refine n_iconst C dL_law_516 ?_
  refine n_iadd C dL_law_517 ?_
  refine n_sld (i + 2) C hX (by omega) (by omega) hL dL_law_518 ?_
  refine n_call (wc := WM g q2 ρ) (wr := WC g q u) C hR ⟨by decide, by decide⟩ (c_X7_height g (q := q2) (σ := ρ) (iZ_rng _) (iZ_rng _) hI.am (by rw [hI.2.2.2.1.1]; exact hI.1.1.pa.2.2.2.2)) gv_L_66 yd_X7_height ⟨by decide, by decide⟩ 0 7 (WD_get (by decide)) rfl rfl (Nat.le_of_ble_eq_true rfl) dL_law_519 (fun v2 u2 hu2 => ?_)
  obtain ⟨z2, rfl, hu2⟩ := hu2
  show GN g K 39 587 (WC g q u ++ WM g q2 u2) 522 [(0, .ref b), (1, .ref (q 0)), (2, .ref (q2 0)), (3, .int (iZ (i : Int)))] [.long (lZ z2), .long (lZ z)]
  obtain ⟨rfl, n2, hI2⟩ := pr_height hI hu hu2
  exact n_lsame 687 C dL_law_522 dL_law_523 (by decide) (hn _ _ _ hI2)
set_option maxHeartbeats 4000000 in
set_option maxRecDepth 20000 in
theorem law_bar {g : Gx} {K : Kx} {q q2 : Nat → Nat} {σ ρ : Nat → Nat → Int} {b L nn i : Nat} {xs : Nat → Int32} (hL : L ≤ 2560) (hi : i + 5 ≤ L) (C : CX g K cL_law RL 4 9 340) (hR : RM K 600000 7302250) (hX : LXK K b L xs) (hI : INV σ ρ nn) (hn : ∀ u v n', INV u v n' → GN g K 39 587 (WC g q u ++ WM g q2 v) 687 [(0, .ref b), (1, .ref (q 0)), (2, .ref (q2 0)), (3, .int (iZ (i : Int)))] []) : GN g K 39 587 (WC g q σ ++ WM g q2 ρ) 528 [(0, .ref b), (1, .ref (q 0)), (2, .ref (q2 0)), (3, .int (iZ (i : Int)))] [] := by
  refine n_aload_n 1 C rfl dL_law_528 rfl ?_
  refine n_aload_n 0 C rfl dL_law_529 rfl ?_
  refine n_iload_n 3 C rfl dL_law_530 rfl ?_
  refine n_iconst C dL_law_531 ?_
  refine n_iadd C dL_law_532 ?_
  refine n_sld (i + 1) C hX (by omega) (by omega) hL dL_law_533 ?_
  refine n_call (wc := WC g q σ) (wr := WM g q2 ρ) C hR ⟨by decide, by decide⟩ (c_X6_bar g (q := q) (σ := σ) hI.hs (iZ_rng _)) gv_L_67 yd_X6_bar ⟨by decide, by decide⟩ 0 6 (WD_get (by decide)) rfl rfl (Nat.le_of_ble_eq_true rfl) dL_law_534 (fun v u hu => ?_)
  obtain ⟨z, rfl, hu⟩ := hu
  show GN g K 39 587 (WM g q2 ρ ++ WC g q u) 537 [(0, .ref b), (1, .ref (q 0)), (2, .ref (q2 0)), (3, .int (iZ (i : Int)))] [.int (iZ z)]
  refine n_aload_n 2 C rfl dL_law_537 rfl ?_
  refine n_aload_n 0 C rfl dL_law_538 rfl ?_
  refine n_iload_n 3 C rfl dL_law_539 rfl ?_
  refine n_iconst C dL_law_540 ?_
  refine n_iadd C dL_law_541 ?_
  refine n_sld (i + 1) C hX (by omega) (by omega) hL dL_law_542 ?_
  refine n_call (wc := WM g q2 ρ) (wr := WC g q u) C hR ⟨by decide, by decide⟩ (c_X7_bar g (q := q2) (σ := ρ) (iZ_rng _) hI.am hI.two) gv_L_70 yd_X7_bar ⟨by decide, by decide⟩ 0 7 (WD_get (by decide)) rfl rfl (Nat.le_of_ble_eq_true rfl) dL_law_543 (fun v2 u2 hu2 => ?_)
  obtain ⟨z2, rfl, hu2⟩ := hu2
  show GN g K 39 587 (WC g q u ++ WM g q2 u2) 546 [(0, .ref b), (1, .ref (q 0)), (2, .ref (q2 0)), (3, .int (iZ (i : Int)))] [.int (iZ z2), .int (iZ z)]
  obtain ⟨rfl, n2, hI2⟩ := pr_bar hI hu hu2
  exact n_isame 687 C dL_law_546 (by decide) (hn _ _ _ hI2)
set_option maxHeartbeats 4000000 in
set_option maxRecDepth 20000 in
theorem law_fits {g : Gx} {K : Kx} {q q2 : Nat → Nat} {σ ρ : Nat → Nat → Int} {b L nn i : Nat} {xs : Nat → Int32} (hL : L ≤ 2560) (hi : i + 5 ≤ L) (C : CX g K cL_law RL 4 9 340) (hR : RM K 600000 7302250) (hX : LXK K b L xs) (hI : INV σ ρ nn) (hn : ∀ u v n', INV u v n' → GN g K 39 587 (WC g q u ++ WM g q2 v) 687 [(0, .ref b), (1, .ref (q 0)), (2, .ref (q2 0)), (3, .int (iZ (i : Int)))] []) : GN g K 39 587 (WC g q σ ++ WM g q2 ρ) 551 [(0, .ref b), (1, .ref (q 0)), (2, .ref (q2 0)), (3, .int (iZ (i : Int)))] [] := by
  refine n_aload_n 1 C rfl dL_law_551 rfl ?_
  refine n_aload_n 0 C rfl dL_law_552 rfl ?_
  refine n_iload_n 3 C rfl dL_law_553 rfl ?_
  refine n_iconst C dL_law_554 ?_
  refine n_iadd C dL_law_555 ?_
  refine n_sld (i + 1) C hX (by omega) (by omega) hL dL_law_556 ?_
  refine n_aload_n 0 C rfl dL_law_557 rfl ?_
  refine n_iload_n 3 C rfl dL_law_558 rfl ?_
  refine n_iconst C dL_law_559 ?_
  refine n_iadd C dL_law_560 ?_
  refine n_sld (i + 2) C hX (by omega) (by omega) hL dL_law_561 ?_
  refine n_aload_n 0 C rfl dL_law_562 rfl ?_
  refine n_iload_n 3 C rfl dL_law_563 rfl ?_
  refine n_iconst C dL_law_564 ?_
  refine n_iadd C dL_law_565 ?_
  refine n_sld (i + 3) C hX (by omega) (by omega) hL dL_law_566 ?_
  refine n_aload_n 0 C rfl dL_law_567 rfl ?_
  refine n_iload_n 3 C rfl dL_law_568 rfl ?_
  refine n_iconst C dL_law_569 ?_
  refine n_iadd C dL_law_570 ?_
  refine n_sld (i + 4) C hX (by omega) (by omega) hL dL_law_571 ?_
  refine n_call (wc := WC g q σ) (wr := WM g q2 ρ) C hR ⟨by decide, by decide⟩ (c_X6_fits g (q := q) (σ := σ) hI.hs (iZ_rng _) (iZ_rng _) (iZ_rng _) (iZ_rng _)) gv_L_71 yd_X6_fits ⟨by decide, by decide⟩ 0 6 (WD_get (by decide)) rfl rfl (Nat.le_of_ble_eq_true rfl) dL_law_572 (fun v u hu => ?_)
  obtain ⟨z, rfl, hu⟩ := hu
  show GN g K 39 587 (WM g q2 ρ ++ WC g q u) 575 [(0, .ref b), (1, .ref (q 0)), (2, .ref (q2 0)), (3, .int (iZ (i : Int)))] [.int (iZ z)]
  refine n_aload_n 2 C rfl dL_law_575 rfl ?_
  refine n_aload_n 0 C rfl dL_law_576 rfl ?_
  refine n_iload_n 3 C rfl dL_law_577 rfl ?_
  refine n_iconst C dL_law_578 ?_
  refine n_iadd C dL_law_579 ?_
  refine n_sld (i + 1) C hX (by omega) (by omega) hL dL_law_580 ?_
  refine n_aload_n 0 C rfl dL_law_581 rfl ?_
  refine n_iload_n 3 C rfl dL_law_582 rfl ?_
  refine n_iconst C dL_law_583 ?_
  refine n_iadd C dL_law_584 ?_
  refine n_sld (i + 2) C hX (by omega) (by omega) hL dL_law_585 ?_
  refine n_aload_n 0 C rfl dL_law_586 rfl ?_
  refine n_iload_n 3 C rfl dL_law_587 rfl ?_
  refine n_iconst C dL_law_588 ?_
  refine n_iadd C dL_law_589 ?_
  refine n_sld (i + 3) C hX (by omega) (by omega) hL dL_law_590 ?_
  refine n_aload_n 0 C rfl dL_law_591 rfl ?_
  refine n_iload_n 3 C rfl dL_law_592 rfl ?_
  refine n_iconst C dL_law_593 ?_
  refine n_iadd C dL_law_594 ?_
  refine n_sld (i + 4) C hX (by omega) (by omega) hL dL_law_595 ?_
  refine n_call (wc := WM g q2 ρ) (wr := WC g q u) C hR ⟨by decide, by decide⟩ (c_X7_fits g (q := q2) (σ := ρ) hI.am (iZ_rng _) (iZ_rng _) (iZ_rng _) (iZ_rng _)) gv_L_74 yd_X7_fits ⟨by decide, by decide⟩ 0 7 (WD_get (by decide)) rfl rfl (Nat.le_of_ble_eq_true rfl) dL_law_596 (fun v2 u2 hu2 => ?_)
  obtain ⟨z2, rfl, hu2⟩ := hu2
  show GN g K 39 587 (WC g q u ++ WM g q2 u2) 599 [(0, .ref b), (1, .ref (q 0)), (2, .ref (q2 0)), (3, .int (iZ (i : Int)))] [.int (iZ z2), .int (iZ z)]
  obtain ⟨rfl, n2, hI2⟩ := pr_fits hI hu hu2
  exact n_isame 687 C dL_law_599 (by decide) (hn _ _ _ hI2)
set_option maxHeartbeats 4000000 in
set_option maxRecDepth 20000 in
theorem law_factor {g : Gx} {K : Kx} {q q2 : Nat → Nat} {σ ρ : Nat → Nat → Int} {b L nn i : Nat} {xs : Nat → Int32} (hL : L ≤ 2560) (hi : i + 5 ≤ L) (C : CX g K cL_law RL 4 9 340) (hR : RM K 600000 7302250) (hX : LXK K b L xs) (hI : INV σ ρ nn) (hn : ∀ u v n', INV u v n' → GN g K 39 587 (WC g q u ++ WM g q2 v) 687 [(0, .ref b), (1, .ref (q 0)), (2, .ref (q2 0)), (3, .int (iZ (i : Int)))] []) : GN g K 39 587 (WC g q σ ++ WM g q2 ρ) 604 [(0, .ref b), (1, .ref (q 0)), (2, .ref (q2 0)), (3, .int (iZ (i : Int)))] [] := by
  refine n_aload_n 1 C rfl dL_law_604 rfl ?_
  refine n_aload_n 0 C rfl dL_law_605 rfl ?_
  refine n_iload_n 3 C rfl dL_law_606 rfl ?_
  refine n_iconst C dL_law_607 ?_
  refine n_iadd C dL_law_608 ?_
  refine n_sld (i + 1) C hX (by omega) (by omega) hL dL_law_609 ?_
  refine n_call (wc := WC g q σ) (wr := WM g q2 ρ) C hR ⟨by decide, by decide⟩ (c_X6_factor g (q := q) (σ := σ) hI.hs (iZ_rng _)) gv_L_75 yd_X6_factor ⟨by decide, by decide⟩ 0 6 (WD_get (by decide)) rfl rfl (Nat.le_of_ble_eq_true rfl) dL_law_610 (fun v u hu => ?_)
  obtain ⟨z, rfl, hu⟩ := hu
  show GN g K 39 587 (WM g q2 ρ ++ WC g q u) 613 [(0, .ref b), (1, .ref (q 0)), (2, .ref (q2 0)), (3, .int (iZ (i : Int)))] [.long (lZ z)]
  refine n_aload_n 2 C rfl dL_law_613 rfl ?_
  refine n_aload_n 0 C rfl dL_law_614 rfl ?_
  refine n_iload_n 3 C rfl dL_law_615 rfl ?_
  refine n_iconst C dL_law_616 ?_
  refine n_iadd C dL_law_617 ?_
  refine n_sld (i + 1) C hX (by omega) (by omega) hL dL_law_618 ?_
  refine n_call (wc := WM g q2 ρ) (wr := WC g q u) C hR ⟨by decide, by decide⟩ (c_X7_factor g (q := q2) (σ := ρ) (iZ_rng _) hI.am) gv_L_79 yd_X7_factor ⟨by decide, by decide⟩ 0 7 (WD_get (by decide)) rfl rfl (Nat.le_of_ble_eq_true rfl) dL_law_619 (fun v2 u2 hu2 => ?_)
  obtain ⟨z2, rfl, hu2⟩ := hu2
  show GN g K 39 587 (WC g q u ++ WM g q2 u2) 622 [(0, .ref b), (1, .ref (q 0)), (2, .ref (q2 0)), (3, .int (iZ (i : Int)))] [.long (lZ z2), .long (lZ z)]
  obtain ⟨rfl, n2, hI2⟩ := pr_factor hI hu hu2
  exact n_lsame 687 C dL_law_622 dL_law_623 (by decide) (hn _ _ _ hI2)
set_option maxHeartbeats 4000000 in
set_option maxRecDepth 20000 in
theorem law_harms {g : Gx} {K : Kx} {q q2 : Nat → Nat} {σ ρ : Nat → Nat → Int} {b L nn i : Nat} {xs : Nat → Int32} (hL : L ≤ 2560) (hi : i + 5 ≤ L) (C : CX g K cL_law RL 4 9 340) (hR : RM K 600000 7302250) (hX : LXK K b L xs) (hI : INV σ ρ nn) (hn : ∀ u v n', INV u v n' → GN g K 39 587 (WC g q u ++ WM g q2 v) 687 [(0, .ref b), (1, .ref (q 0)), (2, .ref (q2 0)), (3, .int (iZ (i : Int)))] []) : GN g K 39 587 (WC g q σ ++ WM g q2 ρ) 628 [(0, .ref b), (1, .ref (q 0)), (2, .ref (q2 0)), (3, .int (iZ (i : Int)))] [] := by
  refine n_aload_n 1 C rfl dL_law_628 rfl ?_
  refine n_aload_n 0 C rfl dL_law_629 rfl ?_
  refine n_iload_n 3 C rfl dL_law_630 rfl ?_
  refine n_iconst C dL_law_631 ?_
  refine n_iadd C dL_law_632 ?_
  refine n_sld (i + 1) C hX (by omega) (by omega) hL dL_law_633 ?_
  refine n_call (wc := WC g q σ) (wr := WM g q2 ρ) C hR ⟨by decide, by decide⟩ (c_X6_harms g (q := q) (σ := σ) hI.hs hI.1.2 (iZ_rng _)) gv_L_80 yd_X6_harms ⟨by decide, by decide⟩ 0 6 (WD_get (by decide)) rfl rfl (Nat.le_of_ble_eq_true rfl) dL_law_634 (fun v u hu => ?_)
  obtain ⟨z, rfl, hu⟩ := hu
  show GN g K 39 587 (WM g q2 ρ ++ WC g q u) 637 [(0, .ref b), (1, .ref (q 0)), (2, .ref (q2 0)), (3, .int (iZ (i : Int)))] [.int (iZ z)]
  refine n_aload_n 2 C rfl dL_law_637 rfl ?_
  refine n_aload_n 0 C rfl dL_law_638 rfl ?_
  refine n_iload_n 3 C rfl dL_law_639 rfl ?_
  refine n_iconst C dL_law_640 ?_
  refine n_iadd C dL_law_641 ?_
  refine n_sld (i + 1) C hX (by omega) (by omega) hL dL_law_642 ?_
  refine n_call (wc := WM g q2 ρ) (wr := WC g q u) C hR ⟨by decide, by decide⟩ (c_X7_harms g (q := q2) (σ := ρ) (iZ_rng _) hI.2.1.2 hI.n.1 hI.n.2 hI.mor) gv_L_83 yd_X7_harms ⟨by decide, by decide⟩ 0 7 (WD_get (by decide)) rfl rfl (Nat.le_of_ble_eq_true rfl) dL_law_643 (fun v2 u2 hu2 => ?_)
  obtain ⟨z2, rfl, hu2⟩ := hu2
  show GN g K 39 587 (WC g q u ++ WM g q2 u2) 646 [(0, .ref b), (1, .ref (q 0)), (2, .ref (q2 0)), (3, .int (iZ (i : Int)))] [.int (iZ z2), .int (iZ z)]
  obtain ⟨rfl, n2, hI2⟩ := pr_harms hI hu hu2
  exact n_isame 687 C dL_law_646 (by decide) (hn _ _ _ hI2)
set_option maxHeartbeats 4000000 in
set_option maxRecDepth 20000 in
theorem law_falls {g : Gx} {K : Kx} {q q2 : Nat → Nat} {σ ρ : Nat → Nat → Int} {b L nn i : Nat} {xs : Nat → Int32} (hL : L ≤ 2560) (hi : i + 5 ≤ L) (C : CX g K cL_law RL 4 9 340) (hR : RM K 600000 7302250) (hX : LXK K b L xs) (hI : INV σ ρ nn) (hn : ∀ u v n', INV u v n' → GN g K 39 587 (WC g q u ++ WM g q2 v) 687 [(0, .ref b), (1, .ref (q 0)), (2, .ref (q2 0)), (3, .int (iZ (i : Int)))] []) : GN g K 39 587 (WC g q σ ++ WM g q2 ρ) 651 [(0, .ref b), (1, .ref (q 0)), (2, .ref (q2 0)), (3, .int (iZ (i : Int)))] [] := by
  refine n_aload_n 1 C rfl dL_law_651 rfl ?_
  refine n_call (wc := WC g q σ) (wr := WM g q2 ρ) C hR ⟨by decide, by decide⟩ (c_X6_falls g (q := q) (σ := σ) hI.hs) gv_L_84 yd_X6_falls ⟨by decide, by decide⟩ 0 6 (WD_get (by decide)) rfl rfl (Nat.le_of_ble_eq_true rfl) dL_law_652 (fun v u hu => ?_)
  obtain ⟨z, rfl, hu⟩ := hu
  show GN g K 39 587 (WM g q2 ρ ++ WC g q u) 655 [(0, .ref b), (1, .ref (q 0)), (2, .ref (q2 0)), (3, .int (iZ (i : Int)))] [.int (iZ z)]
  refine n_aload_n 2 C rfl dL_law_655 rfl ?_
  refine n_call (wc := WM g q2 ρ) (wr := WC g q u) C hR ⟨by decide, by decide⟩ (c_X7_falls g (q := q2) (σ := ρ) hI.2.1.2 hI.n.1 hI.n.2 hI.laid) gv_L_87 yd_X7_falls ⟨by decide, by decide⟩ 0 7 (WD_get (by decide)) rfl rfl (Nat.le_of_ble_eq_true rfl) dL_law_656 (fun v2 u2 hu2 => ?_)
  obtain ⟨z2, rfl, hu2⟩ := hu2
  show GN g K 39 587 (WC g q u ++ WM g q2 u2) 659 [(0, .ref b), (1, .ref (q 0)), (2, .ref (q2 0)), (3, .int (iZ (i : Int)))] [.int (iZ z2), .int (iZ z)]
  obtain ⟨rfl, n2, hI2⟩ := pr_falls hI hu hu2
  exact n_isame 687 C dL_law_659 (by decide) (hn _ _ _ hI2)
set_option maxHeartbeats 4000000 in
set_option maxRecDepth 20000 in
theorem law_spread {g : Gx} {K : Kx} {q q2 : Nat → Nat} {σ ρ : Nat → Nat → Int} {b L nn i : Nat} {xs : Nat → Int32} (hL : L ≤ 2560) (hi : i + 5 ≤ L) (C : CX g K cL_law RL 4 9 340) (hR : RM K 600000 7302250) (hX : LXK K b L xs) (hI : INV σ ρ nn) (hn : ∀ u v n', INV u v n' → GN g K 39 587 (WC g q u ++ WM g q2 v) 687 [(0, .ref b), (1, .ref (q 0)), (2, .ref (q2 0)), (3, .int (iZ (i : Int)))] []) : GN g K 39 587 (WC g q σ ++ WM g q2 ρ) 664 [(0, .ref b), (1, .ref (q 0)), (2, .ref (q2 0)), (3, .int (iZ (i : Int)))] [] := by
  refine n_aload_n 1 C rfl dL_law_664 rfl ?_
  refine n_aload_n 0 C rfl dL_law_665 rfl ?_
  refine n_iload_n 3 C rfl dL_law_666 rfl ?_
  refine n_iconst C dL_law_667 ?_
  refine n_iadd C dL_law_668 ?_
  refine n_sld (i + 1) C hX (by omega) (by omega) hL dL_law_669 ?_
  refine n_call (wc := WC g q σ) (wr := WM g q2 ρ) C hR ⟨by decide, by decide⟩ (c_X6_spread g (q := q) (σ := σ) hI.hs.1 hI.n.1 hI.n.2 hI.hs.hx (iZ_rng _)) gv_L_88 yd_X6_spread ⟨by decide, by decide⟩ 0 6 (WD_get (by decide)) rfl rfl (Nat.le_of_ble_eq_true rfl) dL_law_670 (fun v u hu => ?_)
  obtain ⟨z, rfl, hu⟩ := hu
  show GN g K 39 587 (WM g q2 ρ ++ WC g q u) 673 [(0, .ref b), (1, .ref (q 0)), (2, .ref (q2 0)), (3, .int (iZ (i : Int)))] [.int (iZ z)]
  refine n_aload_n 2 C rfl dL_law_673 rfl ?_
  refine n_aload_n 0 C rfl dL_law_674 rfl ?_
  refine n_iload_n 3 C rfl dL_law_675 rfl ?_
  refine n_iconst C dL_law_676 ?_
  refine n_iadd C dL_law_677 ?_
  refine n_sld (i + 1) C hX (by omega) (by omega) hL dL_law_678 ?_
  refine n_call (wc := WM g q2 ρ) (wr := WC g q u) C hR ⟨by decide, by decide⟩ (c_X7_spread g (q := q2) (σ := ρ) hI.2.1.2 hI.n.1 hI.n.2 hI.am.2.2.2.1 (iZ_rng _)) gv_L_91 yd_X7_spread ⟨by decide, by decide⟩ 0 7 (WD_get (by decide)) rfl rfl (Nat.le_of_ble_eq_true rfl) dL_law_679 (fun v2 u2 hu2 => ?_)
  obtain ⟨z2, rfl, hu2⟩ := hu2
  show GN g K 39 587 (WC g q u ++ WM g q2 u2) 682 [(0, .ref b), (1, .ref (q 0)), (2, .ref (q2 0)), (3, .int (iZ (i : Int)))] [.int (iZ z2), .int (iZ z)]
  obtain ⟨rfl, n2, hI2⟩ := pr_spread hI hu hu2
  exact n_isame 687 C dL_law_682 (by decide) (hn _ _ _ hI2)
set_option maxHeartbeats 4000000 in
set_option maxRecDepth 20000 in
theorem law_loop {g : Gx} {K : Kx} {q q2 : Nat → Nat} {b L : Nat} {xs : Nat → Int32} (hL : L ≤ 2560) (C : CX g K cL_law RL 4 9 340) (hR : RM K 600000 7302250) (hX : LXK K b L xs) (fin : ∀ (σ ρ : Nat → Nat → Int) (i : Nat), GN g K 39 587 (WC g q σ ++ WM g q2 ρ) 693 [(0, .ref b), (1, .ref (q 0)), (2, .ref (q2 0)), (3, .int (iZ (i : Int)))] []) : ∀ (d i : Nat), L + 5 < i + d → i ≤ L + 5 → ∀ (σ ρ : Nat → Nat → Int) (nn : Nat), INV σ ρ nn → GN g K 39 587 (WC g q σ ++ WM g q2 ρ) 18 [(0, .ref b), (1, .ref (q 0)), (2, .ref (q2 0)), (3, .int (iZ (i : Int)))] [] := by
  intro d
  induction d with
  | zero => intro i k1 k2; omega
  | succ d ih =>
    intro i k1 k2 σ ρ nn hI
    refine n_iload_n 3 C rfl dL_law_18 rfl ?_
    refine n_aload_n 0 C rfl dL_law_19 rfl ?_
    refine n_slen C hX dL_law_20 ?_
    refine n_iconst C dL_law_21 ?_
    refine n_isub C dL_law_22 ?_
    refine n_icmp_gt 693 C (by unfold I32; omega) (by unfold I32; omega) dL_law_23 (by decide) (fun h1 => fin σ ρ i) (fun h1 => ?_)
    have hi : i + 5 ≤ L := by omega
    have hn : ∀ u v n', INV u v n' → GN g K 39 587 (WC g q u ++ WM g q2 v) 687 [(0, .ref b), (1, .ref (q 0)), (2, .ref (q2 0)), (3, .int (iZ (i : Int)))] [] := by
      intro u v n' hI'
      refine n_iinc (lv' := [(0, .ref b), (1, .ref (q 0)), (2, .ref (q2 0)), (3, .int (iZ ((i + 5 : Nat) : Int)))]) 3 [1, 2, 3, 0] C rfl dL_law_687 (by decide) rfl ?_
      refine n_goto 18 C dL_law_690 (by decide) ?_
      exact ih (i + 5) (by omega) (by omega) u v n' hI'
    refine n_aload_n 0 C rfl dL_law_26 rfl ?_
    refine n_iload_n 3 C rfl dL_law_27 rfl ?_
    refine n_sld i C hX rfl (by omega) hL dL_law_28 ?_
    refine n_bipush C dL_law_29 (by decide) ?_
    refine n_iand C dL_law_31 ?_
    generalize hw : (iZ (xs i).toInt &&& iZ 31).toInt = w
    have hw9 : I32 w := by rw [← hw]; exact iZ_rng _
    by_cases h2 : w < 0 ∨ 17 < w
    · exact n_tsOut 687 C hw9 dL_law_32 h2 (by decide) (hn σ ρ nn hI)
    · rcases (show w = 0 ∨ w = 1 ∨ w = 2 ∨ w = 3 ∨ w = 4 ∨ w = 5 ∨ w = 6 ∨ w = 7 ∨ w = 8 ∨ w = 9 ∨ w = 10 ∨ w = 11 ∨ w = 12 ∨ w = 13 ∨ w = 14 ∨ w = 15 ∨ w = 16 ∨ w = 17 by omega) with rfl | rfl | rfl | rfl | rfl | rfl | rfl | rfl | rfl | rfl | rfl | rfl | rfl | rfl | rfl | rfl | rfl | rfl
      · exact n_tsIn 120 C hw9 dL_law_32 (by decide) (by decide) rfl (by decide) (law_joints hL hi C hR hX hI hn)
      · exact n_tsIn 143 C hw9 dL_law_32 (by decide) (by decide) rfl (by decide) (law_at hL hi C hR hX hI hn)
      · exact n_tsIn 176 C hw9 dL_law_32 (by decide) (by decide) rfl (by decide) (law_edges hL hi C hR hX hI hn)
      · exact n_tsIn 219 C hw9 dL_law_32 (by decide) (by decide) rfl (by decide) (law_load hL hi C hR hX hI hn)
      · exact n_tsIn 252 C hw9 dL_law_32 (by decide) (by decide) rfl (by decide) (law_sheet hL hi C hR hX hI hn)
      · exact n_tsIn 295 C hw9 dL_law_32 (by decide) (by decide) rfl (by decide) (law_drop hL hi C hR hX hI hn)
      · exact n_tsIn 318 C hw9 dL_law_32 (by decide) (by decide) rfl (by decide) (law_item hL hi C hR hX hI hn)
      · exact n_tsIn 371 C hw9 dL_law_32 (by decide) (by decide) rfl (by decide) (law_read hL hi C hR hX hI hn)
      · exact n_tsIn 414 C hw9 dL_law_32 (by decide) (by decide) rfl (by decide) (law_told hL hi C hR hX hI hn)
      · exact n_tsIn 447 C hw9 dL_law_32 (by decide) (by decide) rfl (by decide) (law_stands hL hi C hR hX hI hn)
      · exact n_tsIn 460 C hw9 dL_law_32 (by decide) (by decide) rfl (by decide) (law_thrust hL hi C hR hX hI hn)
      · exact n_tsIn 494 C hw9 dL_law_32 (by decide) (by decide) rfl (by decide) (law_height hL hi C hR hX hI hn)
      · exact n_tsIn 528 C hw9 dL_law_32 (by decide) (by decide) rfl (by decide) (law_bar hL hi C hR hX hI hn)
      · exact n_tsIn 551 C hw9 dL_law_32 (by decide) (by decide) rfl (by decide) (law_fits hL hi C hR hX hI hn)
      · exact n_tsIn 604 C hw9 dL_law_32 (by decide) (by decide) rfl (by decide) (law_factor hL hi C hR hX hI hn)
      · exact n_tsIn 628 C hw9 dL_law_32 (by decide) (by decide) rfl (by decide) (law_harms hL hi C hR hX hI hn)
      · exact n_tsIn 651 C hw9 dL_law_32 (by decide) (by decide) rfl (by decide) (law_falls hL hi C hR hX hI hn)
      · exact n_tsIn 664 C hw9 dL_law_32 (by decide) (by decide) rfl (by decide) (law_spread hL hi C hR hX hI hn)
