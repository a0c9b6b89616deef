/-! the rows of the model as a matrix -/
def rwf (σ : Nat → Nat → Int) (r c : Nat) : Int := σ 8 (5 * r + c)
def det3 (f : Nat → Nat → Int) (p q r x y z : Nat) : Int := f p x * (f q y * f r z - f q z * f r y) - f p y * (f q x * f r z - f q z * f r x) + f p z * (f q x * f r y - f q y * f r x)
def mosum (x w : Nat → Int) (L : Int) (i : Nat) : Nat → Int
  | 0 => 0
  | 1 => 0
  | (j + 2) => mosum x w L i (j + 1) + x i * w (j + 1) * (L - x (j + 1)) - (if j + 1 < i then L * w (j + 1) * (x i - x (j + 1)) else 0)
theorem mosum_s (x w : Nat → Int) (L : Int) (i j : Nat) : mosum x w L i (j + 2) = mosum x w L i (j + 1) + x i * w (j + 1) * (L - x (j + 1)) - (if j + 1 < i then L * w (j + 1) * (x i - x (j + 1)) else 0) := rfl
def lin (σ : Nat → Nat → Int) (r : Nat) : Int := rwf σ r 0 * σ 9 0 + rwf σ r 1 * σ 9 1 + rwf σ r 2 * σ 9 2 + rwf σ r 3 * σ 9 3
set_option maxHeartbeats 4000000 in
set_option maxRecDepth 20000 in
theorem c_X7_three (g : Gx) {q : Nat → Nat} {σ : Nat → Nat → Int} {p1 p2 p3 x1 x2 x3 : Nat} (h1 : p1 < 16) (h2 : p2 < 16) (h3 : p3 < 16) (h4 : x1 < 5) (h5 : x2 < 5) (h6 : x3 < 5) : MC g yX7_three cX7_three 13 ((some .long)) 0 0 (WM g q σ) [.ref (q 0), .int (iZ (p1 : Int)), .int (iZ (p2 : Int)), .int (iZ (p3 : Int)), .int (iZ (x1 : Int)), .int (iZ (x2 : Int)), .int (iZ (x3 : Int))] (fun _ : Unit => WM g q σ) (pL (fun z _ => z = det3 (rwf σ) p1 p2 p3 x1 x2 x3)) := by
  refine MC_intro (own := RX7) rfl (by decide) (Nat.le_of_ble_eq_true rfl) (fun K C T => ?_)
  show GJ g K (WM g q σ) 0 [(0, .ref (q 0)), (1, .int (iZ (p1 : Int))), (2, .int (iZ (p2 : Int))), (3, .int (iZ (p3 : Int))), (4, .int (iZ (x1 : Int))), (5, .int (iZ (x2 : Int))), (6, .int (iZ (x3 : Int)))] []
  refine g_aload_n 0 C rfl dX7_three_0 rfl ?_
  refine gf_X7_35 C dX7_three_1 ?_
  refine g_iconst C dX7_three_4 ?_
  refine g_iload_n 2 C rfl dX7_three_5 rfl ?_
  refine g_imul C dX7_three_6 ?_
  refine g_iload 5 C rfl dX7_three_7 ?_
  refine g_iadd C dX7_three_9 ?_
  refine g_lald C 8 ((5 * p2) + x2) (by decide) (fun _ => rfl) (by omega) (by omega) (by decide) dX7_three_10 ?_
  refine g_aload_n 0 C rfl dX7_three_11 rfl ?_
  refine gf_X7_35 C dX7_three_12 ?_
  refine g_iconst C dX7_three_15 ?_
  refine g_iload_n 3 C rfl dX7_three_16 rfl ?_
  refine g_imul C dX7_three_17 ?_
  refine g_iload 6 C rfl dX7_three_18 ?_
  refine g_iadd C dX7_three_20 ?_
  refine g_lald C 8 ((5 * p3) + x3) (by decide) (fun _ => rfl) (by omega) (by omega) (by decide) dX7_three_21 ?_
  refine g_lmul C dX7_three_22 ?_
  refine g_aload_n 0 C rfl dX7_three_23 rfl ?_
  refine gf_X7_35 C dX7_three_24 ?_
  refine g_iconst C dX7_three_27 ?_
  refine g_iload_n 2 C rfl dX7_three_28 rfl ?_
  refine g_imul C dX7_three_29 ?_
  refine g_iload 6 C rfl dX7_three_30 ?_
  refine g_iadd C dX7_three_32 ?_
  refine g_lald C 8 ((5 * p2) + x3) (by decide) (fun _ => rfl) (by omega) (by omega) (by decide) dX7_three_33 ?_
  refine g_aload_n 0 C rfl dX7_three_34 rfl ?_
  refine gf_X7_35 C dX7_three_35 ?_
  refine g_iconst C dX7_three_38 ?_
  refine g_iload_n 3 C rfl dX7_three_39 rfl ?_
  refine g_imul C dX7_three_40 ?_
  refine g_iload 5 C rfl dX7_three_41 ?_
  refine g_iadd C dX7_three_43 ?_
  refine g_lald C 8 ((5 * p3) + x2) (by decide) (fun _ => rfl) (by omega) (by omega) (by decide) dX7_three_44 ?_
  refine g_lmul C dX7_three_45 ?_
  refine g_lsub C dX7_three_46 ?_
  refine g_lname (fun w1 ew1 => ?_)
  refine g_lstore (lv' := [(0, .ref (q 0)), (1, .int (iZ (p1 : Int))), (2, .int (iZ (p2 : Int))), (3, .int (iZ (p3 : Int))), (4, .int (iZ (x1 : Int))), (5, .int (iZ (x2 : Int))), (6, .int (iZ (x3 : Int))), (7, .long (lZ w1))]) [1, 2, 3, 4, 5, 6, 7, 0] C dX7_three_47 (by decide) rfl ?_
  refine g_aload_n 0 C rfl dX7_three_49 rfl ?_
  refine gf_X7_35 C dX7_three_50 ?_
  refine g_iconst C dX7_three_53 ?_
  refine g_iload_n 2 C rfl dX7_three_54 rfl ?_
  refine g_imul C dX7_three_55 ?_
  refine g_iload 4 C rfl dX7_three_56 ?_
  refine g_iadd C dX7_three_58 ?_
  refine g_lald C 8 ((5 * p2) + x1) (by decide) (fun _ => rfl) (by omega) (by omega) (by decide) dX7_three_59 ?_
  refine g_aload_n 0 C rfl dX7_three_60 rfl ?_
  refine gf_X7_35 C dX7_three_61 ?_
  refine g_iconst C dX7_three_64 ?_
  refine g_iload_n 3 C rfl dX7_three_65 rfl ?_
  refine g_imul C dX7_three_66 ?_
  refine g_iload 6 C rfl dX7_three_67 ?_
  refine g_iadd C dX7_three_69 ?_
  refine g_lald C 8 ((5 * p3) + x3) (by decide) (fun _ => rfl) (by omega) (by omega) (by decide) dX7_three_70 ?_
  refine g_lmul C dX7_three_71 ?_
  refine g_aload_n 0 C rfl dX7_three_72 rfl ?_
  refine gf_X7_35 C dX7_three_73 ?_
  refine g_iconst C dX7_three_76 ?_
  refine g_iload_n 2 C rfl dX7_three_77 rfl ?_
  refine g_imul C dX7_three_78 ?_
  refine g_iload 6 C rfl dX7_three_79 ?_
  refine g_iadd C dX7_three_81 ?_
  refine g_lald C 8 ((5 * p2) + x3) (by decide) (fun _ => rfl) (by omega) (by omega) (by decide) dX7_three_82 ?_
  refine g_aload_n 0 C rfl dX7_three_83 rfl ?_
  refine gf_X7_35 C dX7_three_84 ?_
  refine g_iconst C dX7_three_87 ?_
  refine g_iload_n 3 C rfl dX7_three_88 rfl ?_
  refine g_imul C dX7_three_89 ?_
  refine g_iload 4 C rfl dX7_three_90 ?_
  refine g_iadd C dX7_three_92 ?_
  refine g_lald C 8 ((5 * p3) + x1) (by decide) (fun _ => rfl) (by omega) (by omega) (by decide) dX7_three_93 ?_
  refine g_lmul C dX7_three_94 ?_
  refine g_lsub C dX7_three_95 ?_
  refine g_lname (fun w2 ew2 => ?_)
  refine g_lstore (lv' := [(0, .ref (q 0)), (1, .int (iZ (p1 : Int))), (2, .int (iZ (p2 : Int))), (3, .int (iZ (p3 : Int))), (4, .int (iZ (x1 : Int))), (5, .int (iZ (x2 : Int))), (6, .int (iZ (x3 : Int))), (7, .long (lZ w1)), (9, .long (lZ w2))]) [1, 2, 3, 4, 5, 6, 7, 8, 0] C dX7_three_96 (by decide) rfl ?_
  refine g_aload_n 0 C rfl dX7_three_98 rfl ?_
  refine gf_X7_35 C dX7_three_99 ?_
  refine g_iconst C dX7_three_102 ?_
  refine g_iload_n 2 C rfl dX7_three_103 rfl ?_
  refine g_imul C dX7_three_104 ?_
  refine g_iload 4 C rfl dX7_three_105 ?_
  refine g_iadd C dX7_three_107 ?_
  refine g_lald C 8 ((5 * p2) + x1) (by decide) (fun _ => rfl) (by omega) (by omega) (by decide) dX7_three_108 ?_
  refine g_aload_n 0 C rfl dX7_three_109 rfl ?_
  refine gf_X7_35 C dX7_three_110 ?_
  refine g_iconst C dX7_three_113 ?_
  refine g_iload_n 3 C rfl dX7_three_114 rfl ?_
  refine g_imul C dX7_three_115 ?_
  refine g_iload 5 C rfl dX7_three_116 ?_
  refine g_iadd C dX7_three_118 ?_
  refine g_lald C 8 ((5 * p3) + x2) (by decide) (fun _ => rfl) (by omega) (by omega) (by decide) dX7_three_119 ?_
  refine g_lmul C dX7_three_120 ?_
  refine g_aload_n 0 C rfl dX7_three_121 rfl ?_
  refine gf_X7_35 C dX7_three_122 ?_
  refine g_iconst C dX7_three_125 ?_
  refine g_iload_n 2 C rfl dX7_three_126 rfl ?_
  refine g_imul C dX7_three_127 ?_
  refine g_iload 5 C rfl dX7_three_128 ?_
  refine g_iadd C dX7_three_130 ?_
  refine g_lald C 8 ((5 * p2) + x2) (by decide) (fun _ => rfl) (by omega) (by omega) (by decide) dX7_three_131 ?_
  refine g_aload_n 0 C rfl dX7_three_132 rfl ?_
  refine gf_X7_35 C dX7_three_133 ?_
  refine g_iconst C dX7_three_136 ?_
  refine g_iload_n 3 C rfl dX7_three_137 rfl ?_
  refine g_imul C dX7_three_138 ?_
  refine g_iload 4 C rfl dX7_three_139 ?_
  refine g_iadd C dX7_three_141 ?_
  refine g_lald C 8 ((5 * p3) + x1) (by decide) (fun _ => rfl) (by omega) (by omega) (by decide) dX7_three_142 ?_
  refine g_lmul C dX7_three_143 ?_
  refine g_lsub C dX7_three_144 ?_
  refine g_lname (fun w3 ew3 => ?_)
  refine g_lstore (lv' := [(0, .ref (q 0)), (1, .int (iZ (p1 : Int))), (2, .int (iZ (p2 : Int))), (3, .int (iZ (p3 : Int))), (4, .int (iZ (x1 : Int))), (5, .int (iZ (x2 : Int))), (6, .int (iZ (x3 : Int))), (7, .long (lZ w1)), (9, .long (lZ w2)), (11, .long (lZ w3))]) [1, 2, 3, 4, 5, 6, 7, 8, 9, 0] C dX7_three_145 (by decide) rfl ?_
  refine g_aload_n 0 C rfl dX7_three_147 rfl ?_
  refine gf_X7_35 C dX7_three_148 ?_
  refine g_iconst C dX7_three_151 ?_
  refine g_iload_n 1 C rfl dX7_three_152 rfl ?_
  refine g_imul C dX7_three_153 ?_
  refine g_iload 4 C rfl dX7_three_154 ?_
  refine g_iadd C dX7_three_156 ?_
  refine g_lald C 8 ((5 * p1) + x1) (by decide) (fun _ => rfl) (by omega) (by omega) (by decide) dX7_three_157 ?_
  refine g_lload 7 C rfl dX7_three_158 ?_
  refine g_lmul C dX7_three_160 ?_
  refine g_aload_n 0 C rfl dX7_three_161 rfl ?_
  refine gf_X7_35 C dX7_three_162 ?_
  refine g_iconst C dX7_three_165 ?_
  refine g_iload_n 1 C rfl dX7_three_166 rfl ?_
  refine g_imul C dX7_three_167 ?_
  refine g_iload 5 C rfl dX7_three_168 ?_
  refine g_iadd C dX7_three_170 ?_
  refine g_lald C 8 ((5 * p1) + x2) (by decide) (fun _ => rfl) (by omega) (by omega) (by decide) dX7_three_171 ?_
  refine g_lload 8 C rfl dX7_three_172 ?_
  refine g_lmul C dX7_three_174 ?_
  refine g_lsub C dX7_three_175 ?_
  refine g_aload_n 0 C rfl dX7_three_176 rfl ?_
  refine gf_X7_35 C dX7_three_177 ?_
  refine g_iconst C dX7_three_180 ?_
  refine g_iload_n 1 C rfl dX7_three_181 rfl ?_
  refine g_imul C dX7_three_182 ?_
  refine g_iload 6 C rfl dX7_three_183 ?_
  refine g_iadd C dX7_three_185 ?_
  refine g_lald C 8 ((5 * p1) + x3) (by decide) (fun _ => rfl) (by omega) (by omega) (by decide) dX7_three_186 ?_
  refine g_lload 9 C rfl dX7_three_187 ?_
  refine g_lmul C dX7_three_189 ?_
  refine g_ladd C dX7_three_190 ?_
  refine g_lret (u := ()) C T dX7_three_191 ?_
  refine ⟨_, rfl, ?_⟩
  subst ew3
  subst ew2
  subst ew1
  rfl
set_option maxHeartbeats 4000000 in
set_option maxRecDepth 20000 in
theorem c_X7_pair (g : Gx) {q : Nat → Nat} {σ : Nat → Nat → Int} {p1 p2 x1 x2 : Nat} (h1 : p1 < 16) (h2 : p2 < 16) (h4 : x1 < 5) (h5 : x2 < 5) : MC g yX7_pair cX7_pair 5 ((some .long)) 0 0 (WM g q σ) [.ref (q 0), .int (iZ (p1 : Int)), .int (iZ (p2 : Int)), .int (iZ (x1 : Int)), .int (iZ (x2 : Int))] (fun _ : Unit => WM g q σ) (pL (fun z _ => z = rwf σ p1 x1 * rwf σ p2 x2 - rwf σ p1 x2 * rwf σ p2 x1)) := by
  refine MC_intro (own := RX7) rfl (by decide) (Nat.le_of_ble_eq_true rfl) (fun K C T => ?_)
  show GJ g K (WM g q σ) 0 [(0, .ref (q 0)), (1, .int (iZ (p1 : Int))), (2, .int (iZ (p2 : Int))), (3, .int (iZ (x1 : Int))), (4, .int (iZ (x2 : Int)))] []
  refine g_aload_n 0 C rfl dX7_pair_0 rfl ?_
  refine gf_X7_35 C dX7_pair_1 ?_
  refine g_iconst C dX7_pair_4 ?_
  refine g_iload_n 1 C rfl dX7_pair_5 rfl ?_
  refine g_imul C dX7_pair_6 ?_
  refine g_iload_n 3 C rfl dX7_pair_7 rfl ?_
  refine g_iadd C dX7_pair_8 ?_
  refine g_lald C 8 ((5 * p1) + x1) (by decide) (fun _ => rfl) (by omega) (by omega) (by decide) dX7_pair_9 ?_
  refine g_aload_n 0 C rfl dX7_pair_10 rfl ?_
  refine gf_X7_35 C dX7_pair_11 ?_
  refine g_iconst C dX7_pair_14 ?_
  refine g_iload_n 2 C rfl dX7_pair_15 rfl ?_
  refine g_imul C dX7_pair_16 ?_
  refine g_iload 4 C rfl dX7_pair_17 ?_
  refine g_iadd C dX7_pair_19 ?_
  refine g_lald C 8 ((5 * p2) + x2) (by decide) (fun _ => rfl) (by omega) (by omega) (by decide) dX7_pair_20 ?_
  refine g_lmul C dX7_pair_21 ?_
  refine g_aload_n 0 C rfl dX7_pair_22 rfl ?_
  refine gf_X7_35 C dX7_pair_23 ?_
  refine g_iconst C dX7_pair_26 ?_
  refine g_iload_n 1 C rfl dX7_pair_27 rfl ?_
  refine g_imul C dX7_pair_28 ?_
  refine g_iload 4 C rfl dX7_pair_29 ?_
  refine g_iadd C dX7_pair_31 ?_
  refine g_lald C 8 ((5 * p1) + x2) (by decide) (fun _ => rfl) (by omega) (by omega) (by decide) dX7_pair_32 ?_
  refine g_aload_n 0 C rfl dX7_pair_33 rfl ?_
  refine gf_X7_35 C dX7_pair_34 ?_
  refine g_iconst C dX7_pair_37 ?_
  refine g_iload_n 2 C rfl dX7_pair_38 rfl ?_
  refine g_imul C dX7_pair_39 ?_
  refine g_iload_n 3 C rfl dX7_pair_40 rfl ?_
  refine g_iadd C dX7_pair_41 ?_
  refine g_lald C 8 ((5 * p2) + x1) (by decide) (fun _ => rfl) (by omega) (by omega) (by decide) dX7_pair_42 ?_
  refine g_lmul C dX7_pair_43 ?_
  refine g_lsub C dX7_pair_44 ?_
  refine g_lret (u := ()) C T dX7_pair_45 ?_
  exact ⟨_, rfl, rfl⟩
set_option maxHeartbeats 4000000 in
set_option maxRecDepth 20000 in
theorem c_X7_setRow (g : Gx) {q : Nat → Nat} {σ : Nat → Nat → Int} {r : Nat} {a b k t z : Int} (h1 : r < 16) : MC g yX7_setRow cX7_setRow 12 (none) 0 0 (WM g q σ) [.ref (q 0), .int (iZ (r : Int)), .long (lZ a), .long (lZ b), .long (lZ k), .long (lZ t), .long (lZ z)] (fun u => WM g q u) (pV (fun u => u = up (up (up (up (up σ 8 (5 * r) a) 8 (5 * r + 1) b) 8 (5 * r + 2) k) 8 (5 * r + 3) t) 8 (5 * r + 4) z)) := by
  refine MC_intro (own := RX7) rfl (by decide) (Nat.le_of_ble_eq_true rfl) (fun K C T => ?_)
  show GJ g K (WM g q σ) 0 [(0, .ref (q 0)), (1, .int (iZ (r : Int))), (2, .long (lZ a)), (4, .long (lZ b)), (6, .long (lZ k)), (8, .long (lZ t)), (10, .long (lZ z))] []
  refine g_aload_n 0 C rfl dX7_setRow_0 rfl ?_
  refine gf_X7_35 C dX7_setRow_1 ?_
  refine g_iconst C dX7_setRow_4 ?_
  refine g_iload_n 1 C rfl dX7_setRow_5 rfl ?_
  refine g_imul C dX7_setRow_6 ?_
  refine g_lload_n 2 C rfl dX7_setRow_7 rfl ?_
  refine g_last C 8 (5 * r) (by decide) (fun _ => rfl) (by omega) (by omega) (by decide) dX7_setRow_8 ?_
  refine g_aload_n 0 C rfl dX7_setRow_9 rfl ?_
  refine gf_X7_35 C dX7_setRow_10 ?_
  refine g_iconst C dX7_setRow_13 ?_
  refine g_iload_n 1 C rfl dX7_setRow_14 rfl ?_
  refine g_imul C dX7_setRow_15 ?_
  refine g_iconst C dX7_setRow_16 ?_
  refine g_iadd C dX7_setRow_17 ?_
  refine g_lload 3 C rfl dX7_setRow_18 ?_
  refine g_last C 8 ((5 * r) + 1) (by decide) (fun _ => rfl) (by omega) (by omega) (by decide) dX7_setRow_20 ?_
  refine g_aload_n 0 C rfl dX7_setRow_21 rfl ?_
  refine gf_X7_35 C dX7_setRow_22 ?_
  refine g_iconst C dX7_setRow_25 ?_
  refine g_iload_n 1 C rfl dX7_setRow_26 rfl ?_
  refine g_imul C dX7_setRow_27 ?_
  refine g_iconst C dX7_setRow_28 ?_
  refine g_iadd C dX7_setRow_29 ?_
  refine g_lload 4 C rfl dX7_setRow_30 ?_
  refine g_last C 8 ((5 * r) + 2) (by decide) (fun _ => rfl) (by omega) (by omega) (by decide) dX7_setRow_32 ?_
  refine g_aload_n 0 C rfl dX7_setRow_33 rfl ?_
  refine gf_X7_35 C dX7_setRow_34 ?_
  refine g_iconst C dX7_setRow_37 ?_
  refine g_iload_n 1 C rfl dX7_setRow_38 rfl ?_
  refine g_imul C dX7_setRow_39 ?_
  refine g_iconst C dX7_setRow_40 ?_
  refine g_iadd C dX7_setRow_41 ?_
  refine g_lload 5 C rfl dX7_setRow_42 ?_
  refine g_last C 8 ((5 * r) + 3) (by decide) (fun _ => rfl) (by omega) (by omega) (by decide) dX7_setRow_44 ?_
  refine g_aload_n 0 C rfl dX7_setRow_45 rfl ?_
  refine gf_X7_35 C dX7_setRow_46 ?_
  refine g_iconst C dX7_setRow_49 ?_
  refine g_iload_n 1 C rfl dX7_setRow_50 rfl ?_
  refine g_imul C dX7_setRow_51 ?_
  refine g_iconst C dX7_setRow_52 ?_
  refine g_iadd C dX7_setRow_53 ?_
  refine g_lload 6 C rfl dX7_setRow_54 ?_
  refine g_last C 8 ((5 * r) + 4) (by decide) (fun _ => rfl) (by omega) (by omega) (by decide) dX7_setRow_56 ?_
  refine g_vret (u := (up (up (up (up (up σ 8 (5 * r) a) 8 ((5 * r) + 1) b) 8 ((5 * r) + 2) k) 8 ((5 * r) + 3) t) 8 ((5 * r) + 4) z)) C T dX7_setRow_57 ?_
  exact ⟨rfl, rfl⟩
set_option maxHeartbeats 4000000 in
set_option maxRecDepth 20000 in
theorem lp_X7_momentAt {g : Gx} {K : Kx} {q : Nat → Nat} {σ : Nat → Nat → Int} {nn i : Nat} {Z : Int} (hn : σ 0 0 = (nn : Int)) (hn2 : 2 ≤ nn) (hn6 : nn ≤ 6) (hi : i ≤ nn) (hZ : Z = mosum (σ 1) (σ 4) (σ 1 nn) i nn) (C : CX g K cX7_momentAt RX7 4 0 0) (T : RT g K (some .int) (fun _ : Unit => WM g q σ) (pI (fun z _ => z = Z))) : ∀ (d j : Nat), 1 ≤ j → j ≤ nn → nn < j + d → ∀ m : Int, m = mosum (σ 1) (σ 4) (σ 1 nn) i j → GJ g K (WM g q σ) 4 [(0, .ref (q 0)), (1, .int (iZ (i : Int))), (2, .int (iZ m)), (3, .int (iZ (j : Int)))] [] := by
  intro d
  induction d with
  | zero => intro j h1 h2 h3; omega
  | succ d ih =>
    intro j hj1 hj2 hj3 m hm
    refine g_iload_n 3 C rfl dX7_momentAt_4 rfl ?_
    refine g_aload_n 0 C rfl dX7_momentAt_5 rfl ?_
    refine gf_X7_7 C dX7_momentAt_6 ?_
    rw [show σ 0 0 = (nn : Int) from hn]
    refine g_icmp_ge 93 C (by unfold I32; omega) (by unfold I32; omega) dX7_momentAt_9 (by decide) (fun h1 => ?_) (fun h1 => ?_)
    · refine g_iload_n 2 C rfl dX7_momentAt_93 rfl ?_
      refine g_iret (u := ()) C T dX7_momentAt_94 ?_
      refine ⟨_, rfl, ?_⟩
      rw [hZ, hm]
      congr 1
      omega
    · refine g_iload_n 2 C rfl dX7_momentAt_12 rfl ?_
      refine g_aload_n 0 C rfl dX7_momentAt_13 rfl ?_
      refine gf_X7_13 C dX7_momentAt_14 ?_
      refine g_iload_n 1 C rfl dX7_momentAt_17 rfl ?_
      refine g_iald C 1 i (by decide) (fun _ => rfl) (by omega) (by omega) (by decide) dX7_momentAt_18 ?_
      refine g_aload_n 0 C rfl dX7_momentAt_19 rfl ?_
      refine gf_X7_23 C dX7_momentAt_20 ?_
      refine g_iload_n 3 C rfl dX7_momentAt_23 rfl ?_
      refine g_iald C 4 j (by decide) (fun _ => rfl) (by omega) (by omega) (by decide) dX7_momentAt_24 ?_
      refine g_imul C dX7_momentAt_25 ?_
      refine g_aload_n 0 C rfl dX7_momentAt_26 rfl ?_
      refine gf_X7_13 C dX7_momentAt_27 ?_
      refine g_aload_n 0 C rfl dX7_momentAt_30 rfl ?_
      refine gf_X7_7 C dX7_momentAt_31 ?_
      rw [show σ 0 0 = (nn : Int) from hn]
      refine g_iald C 1 nn (by decide) (fun _ => rfl) (by omega) (by omega) (by decide) dX7_momentAt_34 ?_
      refine g_aload_n 0 C rfl dX7_momentAt_35 rfl ?_
      refine gf_X7_13 C dX7_momentAt_36 ?_
      refine g_iload_n 3 C rfl dX7_momentAt_39 rfl ?_
      refine g_iald C 1 j (by decide) (fun _ => rfl) (by omega) (by omega) (by decide) dX7_momentAt_40 ?_
      refine g_isub C dX7_momentAt_41 ?_
      refine g_imul C dX7_momentAt_42 ?_
      refine g_iadd C dX7_momentAt_43 ?_
      refine g_iname (fun w2 ew2 => ?_)
      refine g_istore_n (lv' := [(0, .ref (q 0)), (1, .int (iZ (i : Int))), (2, .int (iZ w2)), (3, .int (iZ (j : Int)))]) [1, 2, 0, 3] C dX7_momentAt_44 rfl (by decide) rfl ?_
      refine g_iload_n 2 C rfl dX7_momentAt_45 rfl ?_
      refine g_iload_n 3 C rfl dX7_momentAt_46 rfl ?_
      refine g_iload_n 1 C rfl dX7_momentAt_47 rfl ?_
      refine g_icmp_ge 84 C (by unfold I32; omega) (by unfold I32; omega) dX7_momentAt_48 (by decide) (fun h3 => ?_) (fun h3 => ?_)
      · refine g_iconst C dX7_momentAt_84 ?_
        refine g_isub C dX7_momentAt_85 ?_
        refine g_iname (fun w4 ew4 => ?_)
        refine g_istore_n (lv' := [(0, .ref (q 0)), (1, .int (iZ (i : Int))), (2, .int (iZ w4)), (3, .int (iZ (j : Int)))]) [1, 2, 0, 3] C dX7_momentAt_86 rfl (by decide) rfl ?_
        refine g_iinc (lv' := [(0, .ref (q 0)), (1, .int (iZ (i : Int))), (2, .int (iZ w4)), (3, .int (iZ ((j : Int) + 1)))]) 3 [1, 2, 3, 0] C rfl dX7_momentAt_87 (by decide) rfl ?_
        refine g_goto 4 C dX7_momentAt_90 (by decide) ?_
        refine ih (j + 1) (by omega) (by omega) (by omega) w4 ?_
        obtain ⟨j9, rfl⟩ : ∃ j9, j = j9 + 1 := ⟨j - 1, by omega⟩
        rw [ew4]
        rw [ew2]
        rw [hm]
        show _ = mosum (σ 1) (σ 4) (σ 1 nn) i (j9 + 2)
        rw [mosum_s]
        first | rw [if_pos (by omega)] | rw [if_neg (by omega)]
      · refine g_aload_n 0 C rfl dX7_momentAt_51 rfl ?_
        refine gf_X7_13 C dX7_momentAt_52 ?_
        refine g_aload_n 0 C rfl dX7_momentAt_55 rfl ?_
        refine gf_X7_7 C dX7_momentAt_56 ?_
        rw [show σ 0 0 = (nn : Int) from hn]
        refine g_iald C 1 nn (by decide) (fun _ => rfl) (by omega) (by omega) (by decide) dX7_momentAt_59 ?_
        refine g_aload_n 0 C rfl dX7_momentAt_60 rfl ?_
        refine gf_X7_23 C dX7_momentAt_61 ?_
        refine g_iload_n 3 C rfl dX7_momentAt_64 rfl ?_
        refine g_iald C 4 j (by decide) (fun _ => rfl) (by omega) (by omega) (by decide) dX7_momentAt_65 ?_
        refine g_imul C dX7_momentAt_66 ?_
        refine g_aload_n 0 C rfl dX7_momentAt_67 rfl ?_
        refine gf_X7_13 C dX7_momentAt_68 ?_
        refine g_iload_n 1 C rfl dX7_momentAt_71 rfl ?_
        refine g_iald C 1 i (by decide) (fun _ => rfl) (by omega) (by omega) (by decide) dX7_momentAt_72 ?_
        refine g_aload_n 0 C rfl dX7_momentAt_73 rfl ?_
        refine gf_X7_13 C dX7_momentAt_74 ?_
        refine g_iload_n 3 C rfl dX7_momentAt_77 rfl ?_
        refine g_iald C 1 j (by decide) (fun _ => rfl) (by omega) (by omega) (by decide) dX7_momentAt_78 ?_
        refine g_isub C dX7_momentAt_79 ?_
        refine g_imul C dX7_momentAt_80 ?_
        refine g_goto 85 C dX7_momentAt_81 (by decide) ?_
        refine g_isub C dX7_momentAt_85 ?_
        refine g_iname (fun w5 ew5 => ?_)
        refine g_istore_n (lv' := [(0, .ref (q 0)), (1, .int (iZ (i : Int))), (2, .int (iZ w5)), (3, .int (iZ (j : Int)))]) [1, 2, 0, 3] C dX7_momentAt_86 rfl (by decide) rfl ?_
        refine g_iinc (lv' := [(0, .ref (q 0)), (1, .int (iZ (i : Int))), (2, .int (iZ w5)), (3, .int (iZ ((j : Int) + 1)))]) 3 [1, 2, 3, 0] C rfl dX7_momentAt_87 (by decide) rfl ?_
        refine g_goto 4 C dX7_momentAt_90 (by decide) ?_
        refine ih (j + 1) (by omega) (by omega) (by omega) w5 ?_
        obtain ⟨j9, rfl⟩ : ∃ j9, j = j9 + 1 := ⟨j - 1, by omega⟩
        rw [ew5]
        rw [ew2]
        rw [hm]
        show _ = mosum (σ 1) (σ 4) (σ 1 nn) i (j9 + 2)
        rw [mosum_s]
        first | rw [if_pos (by omega)] | rw [if_neg (by omega)]
set_option maxHeartbeats 4000000 in
set_option maxRecDepth 20000 in
theorem c_X7_momentAt (g : Gx) {q : Nat → Nat} {σ : Nat → Nat → Int} {nn i : Nat} (hn : σ 0 0 = (nn : Int)) (hn2 : 2 ≤ nn) (hn6 : nn ≤ 6) (hi : i ≤ nn) : MC g yX7_momentAt cX7_momentAt 4 ((some .int)) 0 0 (WM g q σ) [.ref (q 0), .int (iZ (i : Int))] (fun _ : Unit => WM g q σ) (pI (fun z _ => z = mosum (σ 1) (σ 4) (σ 1 nn) i nn)) := by
  refine MC_intro (own := RX7) rfl (by decide) (Nat.le_of_ble_eq_true rfl) (fun K C T => ?_)
  show GJ g K (WM g q σ) 0 [(0, .ref (q 0)), (1, .int (iZ (i : Int)))] []
  refine g_iconst C dX7_momentAt_0 ?_
  refine g_istore_n (lv' := [(0, .ref (q 0)), (1, .int (iZ (i : Int))), (2, .int (iZ 0))]) [1, 2, 0] C dX7_momentAt_1 rfl (by decide) rfl ?_
  refine g_iconst C dX7_momentAt_2 ?_
  refine g_istore_n (lv' := [(0, .ref (q 0)), (1, .int (iZ (i : Int))), (2, .int (iZ 0)), (3, .int (iZ 1))]) [1, 2, 3, 0] C dX7_momentAt_3 rfl (by decide) rfl ?_
  exact lp_X7_momentAt hn hn2 hn6 hi rfl C T nn 1 (by omega) (by omega) (by omega) 0 rfl
