section
-- ===== PART A: goes FIRST, ahead of the names: the tables' words, and 'selects' of the private methods out of them =====
/-- a private method of a class that the tables say can be made, by its rows of tables_1 -/
def lw_okq (q : MethodName × Nat) : Prop := (q.1.cls ≠ "java/lang/invoke/MethodHandle" ∧ q.1.cls ≠ "java/lang/invoke/VarHandle") ∧ Cond.instantiable q.1.cls q.2 ∈ tables_1 ∧ Cond.privateMethod q.1 ∈ tables_1 ∧ Cond.instanceMethod q.1 ∈ tables_1
theorem lw_p0 : lw_okq (⟨"StandingArch", "refusalOfRow", "(II)I"⟩, 8) := ⟨⟨by decide +kernel, by decide +kernel⟩, List.mem_of_getElem? (i := 13) (by decide +kernel), List.mem_of_getElem? (i := 263) (by decide +kernel), List.mem_of_getElem? (i := 264) (by decide +kernel)⟩
theorem lw_p1 : lw_okq (⟨"StandingArch", "holdsUnder", "([I)Z"⟩, 8) := ⟨⟨by decide +kernel, by decide +kernel⟩, List.mem_of_getElem? (i := 13) (by decide +kernel), List.mem_of_getElem? (i := 299) (by decide +kernel), List.mem_of_getElem? (i := 300) (by decide +kernel)⟩
theorem lw_p2 : lw_okq (⟨"StandingArch$Triples", "tightestLeast", "(JJ)I"⟩, 5) := ⟨⟨by decide +kernel, by decide +kernel⟩, List.mem_of_getElem? (i := 64) (by decide +kernel), List.mem_of_getElem? (i := 324) (by decide +kernel), List.mem_of_getElem? (i := 325) (by decide +kernel)⟩
theorem lw_p3 : lw_okq (⟨"StandingArch$Triples", "least", "(IJJ)J"⟩, 5) := ⟨⟨by decide +kernel, by decide +kernel⟩, List.mem_of_getElem? (i := 64) (by decide +kernel), List.mem_of_getElem? (i := 328) (by decide +kernel), List.mem_of_getElem? (i := 329) (by decide +kernel)⟩
theorem lw_p4 : lw_okq (⟨"StandingArch$Triples", "tightestMost", "(JJ)I"⟩, 5) := ⟨⟨by decide +kernel, by decide +kernel⟩, List.mem_of_getElem? (i := 64) (by decide +kernel), List.mem_of_getElem? (i := 332) (by decide +kernel), List.mem_of_getElem? (i := 333) (by decide +kernel)⟩
theorem lw_p5 : lw_okq (⟨"StandingArch$Triples", "most", "(IJJ)J"⟩, 5) := ⟨⟨by decide +kernel, by decide +kernel⟩, List.mem_of_getElem? (i := 64) (by decide +kernel), List.mem_of_getElem? (i := 336) (by decide +kernel), List.mem_of_getElem? (i := 337) (by decide +kernel)⟩
theorem lw_p6 : lw_okq (⟨"StandingArch$Triples", "bars", "(IIJJ)Z"⟩, 5) := ⟨⟨by decide +kernel, by decide +kernel⟩, List.mem_of_getElem? (i := 64) (by decide +kernel), List.mem_of_getElem? (i := 340) (by decide +kernel), List.mem_of_getElem? (i := 341) (by decide +kernel)⟩
theorem lw_p7 : lw_okq (⟨"StandingArch$LeastLine", "findLeastStart", "()V"⟩, 7) := ⟨⟨by decide +kernel, by decide +kernel⟩, List.mem_of_getElem? (i := 87) (by decide +kernel), List.mem_of_getElem? (i := 388) (by decide +kernel), List.mem_of_getElem? (i := 389) (by decide +kernel)⟩
theorem lw_p8 : lw_okq (⟨"StandingArch$LeastLine", "straightLow", "(I)J"⟩, 7) := ⟨⟨by decide +kernel, by decide +kernel⟩, List.mem_of_getElem? (i := 87) (by decide +kernel), List.mem_of_getElem? (i := 392) (by decide +kernel), List.mem_of_getElem? (i := 393) (by decide +kernel)⟩
theorem lw_p9 : lw_okq (⟨"StandingArch$LeastLine", "straightHigh", "(I)J"⟩, 7) := ⟨⟨by decide +kernel, by decide +kernel⟩, List.mem_of_getElem? (i := 87) (by decide +kernel), List.mem_of_getElem? (i := 396) (by decide +kernel), List.mem_of_getElem? (i := 397) (by decide +kernel)⟩
theorem lw_p10 : lw_okq (⟨"StandingArch$LeastLine", "findLeastSlope", "()V"⟩, 7) := ⟨⟨by decide +kernel, by decide +kernel⟩, List.mem_of_getElem? (i := 87) (by decide +kernel), List.mem_of_getElem? (i := 400) (by decide +kernel), List.mem_of_getElem? (i := 401) (by decide +kernel)⟩
theorem lw_p11 : lw_okq (⟨"StandingArch$Bars", "findFirst", "(I)Z"⟩, 3) := ⟨⟨by decide +kernel, by decide +kernel⟩, List.mem_of_getElem? (i := 115) (by decide +kernel), List.mem_of_getElem? (i := 418) (by decide +kernel), List.mem_of_getElem? (i := 419) (by decide +kernel)⟩
theorem lw_p12 : lw_okq (⟨"StandingArch$Bars", "barsThree", "(IIII)Z"⟩, 3) := ⟨⟨by decide +kernel, by decide +kernel⟩, List.mem_of_getElem? (i := 115) (by decide +kernel), List.mem_of_getElem? (i := 422) (by decide +kernel), List.mem_of_getElem? (i := 423) (by decide +kernel)⟩
theorem lw_p13 : lw_okq (⟨"StandingArch$Bars", "isBeyondChord", "(IIII)Z"⟩, 3) := ⟨⟨by decide +kernel, by decide +kernel⟩, List.mem_of_getElem? (i := 115) (by decide +kernel), List.mem_of_getElem? (i := 427) (by decide +kernel), List.mem_of_getElem? (i := 428) (by decide +kernel)⟩
theorem lw_p14 : lw_okq (⟨"StandingArch$Bars", "keep", "(IIII)V"⟩, 3) := ⟨⟨by decide +kernel, by decide +kernel⟩, List.mem_of_getElem? (i := 115) (by decide +kernel), List.mem_of_getElem? (i := 432) (by decide +kernel), List.mem_of_getElem? (i := 433) (by decide +kernel)⟩
theorem lw_p15 : lw_okq (⟨"StandingArch$Bars", "barsFour", "(IIII)Z"⟩, 3) := ⟨⟨by decide +kernel, by decide +kernel⟩, List.mem_of_getElem? (i := 115) (by decide +kernel), List.mem_of_getElem? (i := 436) (by decide +kernel), List.mem_of_getElem? (i := 437) (by decide +kernel)⟩
def lw_privs_1 : List (MethodName × Nat) := [(⟨"StandingArch", "refusalOfRow", "(II)I"⟩, 8), (⟨"StandingArch", "holdsUnder", "([I)Z"⟩, 8), (⟨"StandingArch$Triples", "tightestLeast", "(JJ)I"⟩, 5), (⟨"StandingArch$Triples", "least", "(IJJ)J"⟩, 5), (⟨"StandingArch$Triples", "tightestMost", "(JJ)I"⟩, 5), (⟨"StandingArch$Triples", "most", "(IJJ)J"⟩, 5), (⟨"StandingArch$Triples", "bars", "(IIJJ)Z"⟩, 5), (⟨"StandingArch$LeastLine", "findLeastStart", "()V"⟩, 7), (⟨"StandingArch$LeastLine", "straightLow", "(I)J"⟩, 7), (⟨"StandingArch$LeastLine", "straightHigh", "(I)J"⟩, 7), (⟨"StandingArch$LeastLine", "findLeastSlope", "()V"⟩, 7), (⟨"StandingArch$Bars", "findFirst", "(I)Z"⟩, 3), (⟨"StandingArch$Bars", "barsThree", "(IIII)Z"⟩, 3), (⟨"StandingArch$Bars", "isBeyondChord", "(IIII)Z"⟩, 3), (⟨"StandingArch$Bars", "keep", "(IIII)V"⟩, 3), (⟨"StandingArch$Bars", "barsFour", "(IIII)Z"⟩, 3)]
theorem lw_r1 : ∀ q ∈ lw_privs_1, lw_okq q := List.forall_mem_cons.mpr ⟨lw_p0, List.forall_mem_cons.mpr ⟨lw_p1, List.forall_mem_cons.mpr ⟨lw_p2, List.forall_mem_cons.mpr ⟨lw_p3, List.forall_mem_cons.mpr ⟨lw_p4, List.forall_mem_cons.mpr ⟨lw_p5, List.forall_mem_cons.mpr ⟨lw_p6, List.forall_mem_cons.mpr ⟨lw_p7, List.forall_mem_cons.mpr ⟨lw_p8, List.forall_mem_cons.mpr ⟨lw_p9, List.forall_mem_cons.mpr ⟨lw_p10, List.forall_mem_cons.mpr ⟨lw_p11, List.forall_mem_cons.mpr ⟨lw_p12, List.forall_mem_cons.mpr ⟨lw_p13, List.forall_mem_cons.mpr ⟨lw_p14, List.forall_mem_cons.mpr ⟨lw_p15, fun _ h => absurd h List.not_mem_nil⟩⟩⟩⟩⟩⟩⟩⟩⟩⟩⟩⟩⟩⟩⟩⟩
theorem lw_p16 : lw_okq (⟨"StandingArch$Bars", "isCrossed", "(IIIII)Z"⟩, 3) := ⟨⟨by decide +kernel, by decide +kernel⟩, List.mem_of_getElem? (i := 115) (by decide +kernel), List.mem_of_getElem? (i := 440) (by decide +kernel), List.mem_of_getElem? (i := 441) (by decide +kernel)⟩
theorem lw_p17 : lw_okq (⟨"StandingArch$Triples", "straightFactor", "(LStandingArch$Fraction;)Z"⟩, 5) := ⟨⟨by decide +kernel, by decide +kernel⟩, List.mem_of_getElem? (i := 64) (by decide +kernel), List.mem_of_getElem? (i := 456) (by decide +kernel), List.mem_of_getElem? (i := 457) (by decide +kernel)⟩
theorem lw_p18 : lw_okq (⟨"StandingArchModel", "begin", "(I)V"⟩, 22) := ⟨⟨by decide +kernel, by decide +kernel⟩, List.mem_of_getElem? (i := 479) (by decide +kernel), List.mem_of_getElem? (i := 485) (by decide +kernel), List.mem_of_getElem? (i := 486) (by decide +kernel)⟩
theorem lw_p19 : lw_okq (⟨"StandingArchModel", "momentAt", "(I)I"⟩, 22) := ⟨⟨by decide +kernel, by decide +kernel⟩, List.mem_of_getElem? (i := 479) (by decide +kernel), List.mem_of_getElem? (i := 606) (by decide +kernel), List.mem_of_getElem? (i := 607) (by decide +kernel)⟩
theorem lw_p20 : lw_okq (⟨"StandingArchModel", "findLines", "()V"⟩, 22) := ⟨⟨by decide +kernel, by decide +kernel⟩, List.mem_of_getElem? (i := 479) (by decide +kernel), List.mem_of_getElem? (i := 614) (by decide +kernel), List.mem_of_getElem? (i := 615) (by decide +kernel)⟩
theorem lw_p21 : lw_okq (⟨"StandingArchModel", "findRows", "(Z)V"⟩, 22) := ⟨⟨by decide +kernel, by decide +kernel⟩, List.mem_of_getElem? (i := 479) (by decide +kernel), List.mem_of_getElem? (i := 618) (by decide +kernel), List.mem_of_getElem? (i := 619) (by decide +kernel)⟩
theorem lw_p22 : lw_okq (⟨"StandingArchModel", "setRow", "(IJJJJJ)V"⟩, 22) := ⟨⟨by decide +kernel, by decide +kernel⟩, List.mem_of_getElem? (i := 479) (by decide +kernel), List.mem_of_getElem? (i := 622) (by decide +kernel), List.mem_of_getElem? (i := 623) (by decide +kernel)⟩
theorem lw_p23 : lw_okq (⟨"StandingArchModel", "meetThree", "(III)Z"⟩, 22) := ⟨⟨by decide +kernel, by decide +kernel⟩, List.mem_of_getElem? (i := 479) (by decide +kernel), List.mem_of_getElem? (i := 627) (by decide +kernel), List.mem_of_getElem? (i := 628) (by decide +kernel)⟩
theorem lw_p24 : lw_okq (⟨"StandingArchModel", "three", "(IIIIII)J"⟩, 22) := ⟨⟨by decide +kernel, by decide +kernel⟩, List.mem_of_getElem? (i := 479) (by decide +kernel), List.mem_of_getElem? (i := 631) (by decide +kernel), List.mem_of_getElem? (i := 632) (by decide +kernel)⟩
theorem lw_p25 : lw_okq (⟨"StandingArchModel", "turnSpot", "()V"⟩, 22) := ⟨⟨by decide +kernel, by decide +kernel⟩, List.mem_of_getElem? (i := 479) (by decide +kernel), List.mem_of_getElem? (i := 635) (by decide +kernel), List.mem_of_getElem? (i := 636) (by decide +kernel)⟩
theorem lw_p26 : lw_okq (⟨"StandingArchModel", "keepsAll", "()Z"⟩, 22) := ⟨⟨by decide +kernel, by decide +kernel⟩, List.mem_of_getElem? (i := 479) (by decide +kernel), List.mem_of_getElem? (i := 639) (by decide +kernel), List.mem_of_getElem? (i := 640) (by decide +kernel)⟩
theorem lw_p27 : lw_okq (⟨"StandingArchModel", "takeSpot", "()V"⟩, 22) := ⟨⟨by decide +kernel, by decide +kernel⟩, List.mem_of_getElem? (i := 479) (by decide +kernel), List.mem_of_getElem? (i := 643) (by decide +kernel), List.mem_of_getElem? (i := 644) (by decide +kernel)⟩
theorem lw_p28 : lw_okq (⟨"StandingArchModel", "isLoose", "()Z"⟩, 22) := ⟨⟨by decide +kernel, by decide +kernel⟩, List.mem_of_getElem? (i := 479) (by decide +kernel), List.mem_of_getElem? (i := 661) (by decide +kernel), List.mem_of_getElem? (i := 662) (by decide +kernel)⟩
theorem lw_p29 : lw_okq (⟨"StandingArchModel", "findBars", "()I"⟩, 22) := ⟨⟨by decide +kernel, by decide +kernel⟩, List.mem_of_getElem? (i := 479) (by decide +kernel), List.mem_of_getElem? (i := 682) (by decide +kernel), List.mem_of_getElem? (i := 683) (by decide +kernel)⟩
theorem lw_p30 : lw_okq (⟨"StandingArchModel", "areTwo", "()Z"⟩, 22) := ⟨⟨by decide +kernel, by decide +kernel⟩, List.mem_of_getElem? (i := 479) (by decide +kernel), List.mem_of_getElem? (i := 686) (by decide +kernel), List.mem_of_getElem? (i := 687) (by decide +kernel)⟩
theorem lw_p31 : lw_okq (⟨"StandingArchModel", "isAgainst", "(IJJJJ)Z"⟩, 22) := ⟨⟨by decide +kernel, by decide +kernel⟩, List.mem_of_getElem? (i := 479) (by decide +kernel), List.mem_of_getElem? (i := 690) (by decide +kernel), List.mem_of_getElem? (i := 691) (by decide +kernel)⟩
def lw_privs_2 : List (MethodName × Nat) := [(⟨"StandingArch$Bars", "isCrossed", "(IIIII)Z"⟩, 3), (⟨"StandingArch$Triples", "straightFactor", "(LStandingArch$Fraction;)Z"⟩, 5), (⟨"StandingArchModel", "begin", "(I)V"⟩, 22), (⟨"StandingArchModel", "momentAt", "(I)I"⟩, 22), (⟨"StandingArchModel", "findLines", "()V"⟩, 22), (⟨"StandingArchModel", "findRows", "(Z)V"⟩, 22), (⟨"StandingArchModel", "setRow", "(IJJJJJ)V"⟩, 22), (⟨"StandingArchModel", "meetThree", "(III)Z"⟩, 22), (⟨"StandingArchModel", "three", "(IIIIII)J"⟩, 22), (⟨"StandingArchModel", "turnSpot", "()V"⟩, 22), (⟨"StandingArchModel", "keepsAll", "()Z"⟩, 22), (⟨"StandingArchModel", "takeSpot", "()V"⟩, 22), (⟨"StandingArchModel", "isLoose", "()Z"⟩, 22), (⟨"StandingArchModel", "findBars", "()I"⟩, 22), (⟨"StandingArchModel", "areTwo", "()Z"⟩, 22), (⟨"StandingArchModel", "isAgainst", "(IJJJJ)Z"⟩, 22)]
theorem lw_r2 : ∀ q ∈ lw_privs_2, lw_okq q := List.forall_mem_cons.mpr ⟨lw_p16, List.forall_mem_cons.mpr ⟨lw_p17, List.forall_mem_cons.mpr ⟨lw_p18, List.forall_mem_cons.mpr ⟨lw_p19, List.forall_mem_cons.mpr ⟨lw_p20, List.forall_mem_cons.mpr ⟨lw_p21, List.forall_mem_cons.mpr ⟨lw_p22, List.forall_mem_cons.mpr ⟨lw_p23, List.forall_mem_cons.mpr ⟨lw_p24, List.forall_mem_cons.mpr ⟨lw_p25, List.forall_mem_cons.mpr ⟨lw_p26, List.forall_mem_cons.mpr ⟨lw_p27, List.forall_mem_cons.mpr ⟨lw_p28, List.forall_mem_cons.mpr ⟨lw_p29, List.forall_mem_cons.mpr ⟨lw_p30, List.forall_mem_cons.mpr ⟨lw_p31, fun _ h => absurd h List.not_mem_nil⟩⟩⟩⟩⟩⟩⟩⟩⟩⟩⟩⟩⟩⟩⟩⟩
theorem lw_p32 : lw_okq (⟨"StandingArchModel", "summed", "(IIJJJJ)J"⟩, 22) := ⟨⟨by decide +kernel, by decide +kernel⟩, List.mem_of_getElem? (i := 479) (by decide +kernel), List.mem_of_getElem? (i := 694) (by decide +kernel), List.mem_of_getElem? (i := 695) (by decide +kernel)⟩
theorem lw_p33 : lw_okq (⟨"StandingArchModel", "areThree", "()Z"⟩, 22) := ⟨⟨by decide +kernel, by decide +kernel⟩, List.mem_of_getElem? (i := 479) (by decide +kernel), List.mem_of_getElem? (i := 698) (by decide +kernel), List.mem_of_getElem? (i := 699) (by decide +kernel)⟩
theorem lw_p34 : lw_okq (⟨"StandingArchModel", "pair", "(IIII)J"⟩, 22) := ⟨⟨by decide +kernel, by decide +kernel⟩, List.mem_of_getElem? (i := 479) (by decide +kernel), List.mem_of_getElem? (i := 702) (by decide +kernel), List.mem_of_getElem? (i := 703) (by decide +kernel)⟩
theorem lw_p35 : lw_okq (⟨"StandingArchModel", "areFour", "()Z"⟩, 22) := ⟨⟨by decide +kernel, by decide +kernel⟩, List.mem_of_getElem? (i := 479) (by decide +kernel), List.mem_of_getElem? (i := 706) (by decide +kernel), List.mem_of_getElem? (i := 707) (by decide +kernel)⟩
theorem lw_p36 : lw_okq (⟨"StandingArchModel", "findFactor", "()Z"⟩, 22) := ⟨⟨by decide +kernel, by decide +kernel⟩, List.mem_of_getElem? (i := 479) (by decide +kernel), List.mem_of_getElem? (i := 714) (by decide +kernel), List.mem_of_getElem? (i := 715) (by decide +kernel)⟩
theorem lw_p37 : lw_okq (⟨"StandingArchModel", "meetFour", "(IIII)Z"⟩, 22) := ⟨⟨by decide +kernel, by decide +kernel⟩, List.mem_of_getElem? (i := 479) (by decide +kernel), List.mem_of_getElem? (i := 718) (by decide +kernel), List.mem_of_getElem? (i := 719) (by decide +kernel)⟩
theorem lw_p38 : lw_okq (⟨"StandingArchModel", "four", "(IIIIIIII)J"⟩, 22) := ⟨⟨by decide +kernel, by decide +kernel⟩, List.mem_of_getElem? (i := 479) (by decide +kernel), List.mem_of_getElem? (i := 722) (by decide +kernel), List.mem_of_getElem? (i := 723) (by decide +kernel)⟩
def lw_privs_3 : List (MethodName × Nat) := [(⟨"StandingArchModel", "summed", "(IIJJJJ)J"⟩, 22), (⟨"StandingArchModel", "areThree", "()Z"⟩, 22), (⟨"StandingArchModel", "pair", "(IIII)J"⟩, 22), (⟨"StandingArchModel", "areFour", "()Z"⟩, 22), (⟨"StandingArchModel", "findFactor", "()Z"⟩, 22), (⟨"StandingArchModel", "meetFour", "(IIII)Z"⟩, 22), (⟨"StandingArchModel", "four", "(IIIIIIII)J"⟩, 22)]
theorem lw_r3 : ∀ q ∈ lw_privs_3, lw_okq q := List.forall_mem_cons.mpr ⟨lw_p32, List.forall_mem_cons.mpr ⟨lw_p33, List.forall_mem_cons.mpr ⟨lw_p34, List.forall_mem_cons.mpr ⟨lw_p35, List.forall_mem_cons.mpr ⟨lw_p36, List.forall_mem_cons.mpr ⟨lw_p37, List.forall_mem_cons.mpr ⟨lw_p38, fun _ h => absurd h List.not_mem_nil⟩⟩⟩⟩⟩⟩⟩
def lw_privs : List (MethodName × Nat) := lw_privs_1 ++ (lw_privs_2 ++ (lw_privs_3))
def lw_tbl : List Cond := k2_sels lw_privs ++ tables_1
theorem lw_privs_ok : ∀ q ∈ lw_privs, lw_okq q := by
  show ∀ q ∈ lw_privs_1 ++ (lw_privs_2 ++ (lw_privs_3)), lw_okq q
  exact List.forall_mem_append.mpr ⟨lw_r1, List.forall_mem_append.mpr ⟨lw_r2, lw_r3⟩⟩
end
section
/-! ===== BEGIN words of one list among another's, by their places ===== -/
theorem goodIn_r {big : List Cond} (ws : List Cond) (ps : List Nat) (hp : ws = ps.filterMap (fun i => big[i]?)) (h : ws.all goodWord = true) : GoodIn big ws := by
  intro w hw
  have h1 := List.all_eq_true.mp h w hw
  rw [hp] at hw
  obtain ⟨i, -, hi⟩ := List.mem_filterMap.mp hw
  have hm : w ∈ big := by first | exact List.mem_of_getElem? hi | exact List.getElem?_mem hi
  exact ⟨hm, good_of_word h1⟩
theorem goodIn_app {big a b : List Cond} (ha : GoodIn big a) (hb : GoodIn big b) : GoodIn big (a ++ b) := fun w h => (List.mem_append.mp h).elim (ha w) (hb w)
theorem goodIn_ca {big a b : List Cond} {c : Cond} (ha : GoodIn big (c :: a)) (hb : GoodIn big b) : GoodIn big (c :: (a ++ b)) := fun w h => (List.mem_cons.mp h).elim (fun e => ha w (List.mem_cons.mpr (Or.inl e))) (fun h => (List.mem_append.mp h).elim (fun h => ha w (List.mem_cons.mpr (Or.inr h))) (hb w))
theorem goodIn_sub {big ws : List Cond} (hm : ∀ w ∈ ws, w ∈ big) (h : ws.all goodWord = true) : GoodIn big ws := fun w hw => ⟨hm w hw, good_of_word (List.all_eq_true.mp h w hw)⟩
/-! ===== END ===== -/

/-! ===== BEGIN printed: names, fields, word lists, decode rows ===== -/
def RX0 : String := "StandingArch$Arch"
def TX0 : u_T := fun k => match k with
  | 0 => ("StandingArch$Arch", "last", "I", false)
  | 1 => ("StandingArch$Arch", "place", "[I", true)
  | 2 => ("StandingArch$Arch", "low", "[I", true)
  | 3 => ("StandingArch$Arch", "high", "[I", true)
  | 4 => ("StandingArch$Arch", "weight", "[I", true)
  | _ => ("StandingArch$Arch", "moment", "[I", true)
def tyX0 : Nat → FieldType := fun k => match k with
  | 0 => .int
  | 1 => .array .int
  | 2 => .array .int
  | 3 => .array .int
  | 4 => .array .int
  | _ => .array .int
abbrev wsX00 : List Cond := u_ws RX0 TX0 6
theorem nmX0 : ∀ a, a < 6 → ∀ b, b < 6 → a ≠ b → (TX0 a).2.1 ≠ (TX0 b).2.1 := by decide +kernel
theorem tyX0_ok : ∀ k, k < 6 → parseFieldDescriptor (TX0 k).2.2.1 = some (tyX0 k) := by decide +kernel
abbrev cX0_init : ByteArray := prog_2_method_1_code
def yX0_init : MethodName := ⟨RX0, "<init>", "()V"⟩
abbrev cX0_renew : ByteArray := prog_2_method_2_code
def yX0_renew : MethodName := ⟨RX0, "renew", "(I)V"⟩
abbrev cX0_span : ByteArray := prog_2_method_3_code
def yX0_span : MethodName := ⟨RX0, "span", "()I"⟩
abbrev cX0_hasJoint : ByteArray := prog_2_method_4_code
def yX0_hasJoint : MethodName := ⟨RX0, "hasJoint", "(I)Z"⟩
abbrev cX0_hasInnerJoint : ByteArray := prog_2_method_5_code
def yX0_hasInnerJoint : MethodName := ⟨RX0, "hasInnerJoint", "(I)Z"⟩
abbrev cX0_mayTake : ByteArray := prog_2_method_6_code
def yX0_mayTake : MethodName := ⟨RX0, "mayTake", "([II)Z"⟩
abbrev cX0_take : ByteArray := prog_2_method_7_code
def yX0_take : MethodName := ⟨RX0, "take", "([II)V"⟩
abbrev cX0_weigh : ByteArray := prog_2_method_8_code
def yX0_weigh : MethodName := ⟨RX0, "weigh", "([I)V"⟩
abbrev cX0_rise : ByteArray := prog_2_method_9_code
def yX0_rise : MethodName := ⟨RX0, "rise", "([I[IIII)J"⟩
abbrev cX0_bend : ByteArray := prog_2_method_10_code
def yX0_bend : MethodName := ⟨RX0, "bend", "(III)J"⟩
def RX1 : String := "StandingArch$Bars"
def TX1 : u_T := fun k => match k with
  | 0 => ("StandingArch$Bars", "arch", "LStandingArch$Arch;", true)
  | 1 => ("StandingArch$Bars", "count", "I", false)
  | _ => ("StandingArch$Bars", "chosen", "[I", true)
def tyX1 : Nat → FieldType := fun k => match k with
  | 0 => .object "StandingArch$Arch"
  | 1 => .int
  | _ => .array .int
abbrev wsX10 : List Cond := u_ws RX1 TX1 3
theorem nmX1 : ∀ a, a < 3 → ∀ b, b < 3 → a ≠ b → (TX1 a).2.1 ≠ (TX1 b).2.1 := by decide +kernel
theorem tyX1_ok : ∀ k, k < 3 → parseFieldDescriptor (TX1 k).2.2.1 = some (tyX1 k) := by decide +kernel
abbrev cX1_init : ByteArray := prog_3_method_1_code
def yX1_init : MethodName := ⟨RX1, "<init>", "(LStandingArch$Arch;)V"⟩
abbrev cX1_find : ByteArray := prog_3_method_2_code
def yX1_find : MethodName := ⟨RX1, "find", "()V"⟩
abbrev cX1_findFirst : ByteArray := prog_3_method_3_code
def yX1_findFirst : MethodName := ⟨RX1, "findFirst", "(I)Z"⟩
abbrev cX1_barsThree : ByteArray := prog_3_method_4_code
def yX1_barsThree : MethodName := ⟨RX1, "barsThree", "(IIII)Z"⟩
abbrev cX1_barsFour : ByteArray := prog_3_method_5_code
def yX1_barsFour : MethodName := ⟨RX1, "barsFour", "(IIII)Z"⟩
abbrev cX1_keep : ByteArray := prog_3_method_6_code
def yX1_keep : MethodName := ⟨RX1, "keep", "(IIII)V"⟩
abbrev cX1_isBeyondChord : ByteArray := prog_3_method_7_code
def yX1_isBeyondChord : MethodName := ⟨RX1, "isBeyondChord", "(IIII)Z"⟩
abbrev cX1_isCrossed : ByteArray := prog_3_method_8_code
def yX1_isCrossed : MethodName := ⟨RX1, "isCrossed", "(IIIII)Z"⟩
def RX2 : String := "StandingArch$Fraction"
def TX2 : u_T := fun k => match k with
  | 0 => ("StandingArch$Fraction", "above", "J", false)
  | _ => ("StandingArch$Fraction", "below", "J", false)
def tyX2 : Nat → FieldType := fun k => match k with
  | 0 => .long
  | _ => .long
abbrev wsX20 : List Cond := u_ws RX2 TX2 2
theorem nmX2 : ∀ a, a < 2 → ∀ b, b < 2 → a ≠ b → (TX2 a).2.1 ≠ (TX2 b).2.1 := by decide +kernel
theorem tyX2_ok : ∀ k, k < 2 → parseFieldDescriptor (TX2 k).2.2.1 = some (tyX2 k) := by decide +kernel
abbrev cX2_init : ByteArray := prog_4_method_1_code
def yX2_init : MethodName := ⟨RX2, "<init>", "()V"⟩
abbrev cX2_become : ByteArray := prog_4_method_2_code
def yX2_become : MethodName := ⟨RX2, "become", "(JJ)V"⟩
abbrev cX2_isAbove : ByteArray := prog_4_method_3_code
def yX2_isAbove : MethodName := ⟨RX2, "isAbove", "(LStandingArch$Fraction;)Z"⟩
abbrev cX2_part : ByteArray := prog_4_method_4_code
def yX2_part : MethodName := ⟨RX2, "part", "(I)J"⟩
abbrev cX2_commonDivisor : ByteArray := prog_4_method_5_code
def yX2_commonDivisor : MethodName := ⟨RX2, "commonDivisor", "(JJ)J"⟩
def RX3 : String := "StandingArch$LeastLine"
def TX3 : u_T := fun k => match k with
  | 0 => ("StandingArch$LeastLine", "arch", "LStandingArch$Arch;", true)
  | 1 => ("StandingArch$LeastLine", "pushAbove", "J", false)
  | 2 => ("StandingArch$LeastLine", "pushBelow", "J", false)
  | 3 => ("StandingArch$LeastLine", "startAbove", "J", false)
  | 4 => ("StandingArch$LeastLine", "startBelow", "J", false)
  | 5 => ("StandingArch$LeastLine", "slopeAbove", "J", false)
  | _ => ("StandingArch$LeastLine", "slopeBelow", "J", false)
def tyX3 : Nat → FieldType := fun k => match k with
  | 0 => .object "StandingArch$Arch"
  | 1 => .long
  | 2 => .long
  | 3 => .long
  | 4 => .long
  | 5 => .long
  | _ => .long
abbrev wsX30 : List Cond := u_ws RX3 TX3 7
theorem nmX3 : ∀ a, a < 7 → ∀ b, b < 7 → a ≠ b → (TX3 a).2.1 ≠ (TX3 b).2.1 := by decide +kernel
theorem tyX3_ok : ∀ k, k < 7 → parseFieldDescriptor (TX3 k).2.2.1 = some (tyX3 k) := by decide +kernel
abbrev cX3_init : ByteArray := prog_5_method_1_code
def yX3_init : MethodName := ⟨RX3, "<init>", "(LStandingArch$Arch;)V"⟩
abbrev cX3_lay : ByteArray := prog_5_method_2_code
def yX3_lay : MethodName := ⟨RX3, "lay", "(LStandingArch$Fraction;)V"⟩
abbrev cX3_findLeastStart : ByteArray := prog_5_method_3_code
def yX3_findLeastStart : MethodName := ⟨RX3, "findLeastStart", "()V"⟩
abbrev cX3_findLeastSlope : ByteArray := prog_5_method_4_code
def yX3_findLeastSlope : MethodName := ⟨RX3, "findLeastSlope", "()V"⟩
abbrev cX3_heightInto : ByteArray := prog_5_method_5_code
def yX3_heightInto : MethodName := ⟨RX3, "heightInto", "(LStandingArch$Fraction;I)V"⟩
abbrev cX3_straightLow : ByteArray := prog_5_method_6_code
def yX3_straightLow : MethodName := ⟨RX3, "straightLow", "(I)J"⟩
abbrev cX3_straightHigh : ByteArray := prog_5_method_7_code
def yX3_straightHigh : MethodName := ⟨RX3, "straightHigh", "(I)J"⟩
def RX4 : String := "StandingArch$Sheet"
def TX4 : u_T := fun k => match k with
  | 0 => ("StandingArch$Sheet", "held", "Z", false)
  | 1 => ("StandingArch$Sheet", "lane", "I", false)
  | 2 => ("StandingArch$Sheet", "size", "I", false)
  | _ => ("StandingArch$Sheet", "items", "[I", true)
def tyX4 : Nat → FieldType := fun k => match k with
  | 0 => .boolean
  | 1 => .int
  | 2 => .int
  | _ => .array .int
abbrev wsX40 : List Cond := u_ws RX4 TX4 4
theorem nmX4 : ∀ a, a < 4 → ∀ b, b < 4 → a ≠ b → (TX4 a).2.1 ≠ (TX4 b).2.1 := by decide +kernel
theorem tyX4_ok : ∀ k, k < 4 → parseFieldDescriptor (TX4 k).2.2.1 = some (tyX4 k) := by decide +kernel
abbrev cX4_init : ByteArray := prog_6_method_1_code
def yX4_init : MethodName := ⟨RX4, "<init>", "()V"⟩
abbrev cX4_hold : ByteArray := prog_6_method_2_code
def yX4_hold : MethodName := ⟨RX4, "hold", "(II)V"⟩
def RX5 : String := "StandingArch$Triples"
def TX5 : u_T := fun k => match k with
  | 0 => ("StandingArch$Triples", "arch", "LStandingArch$Arch;", true)
  | 1 => ("StandingArch$Triples", "count", "I", false)
  | 2 => ("StandingArch$Triples", "middle", "[J", true)
  | 3 => ("StandingArch$Triples", "room", "[J", true)
  | _ => ("StandingArch$Triples", "bend", "[J", true)
def tyX5 : Nat → FieldType := fun k => match k with
  | 0 => .object "StandingArch$Arch"
  | 1 => .int
  | 2 => .array .long
  | 3 => .array .long
  | _ => .array .long
abbrev wsX50 : List Cond := u_ws RX5 TX5 5
theorem nmX5 : ∀ a, a < 5 → ∀ b, b < 5 → a ≠ b → (TX5 a).2.1 ≠ (TX5 b).2.1 := by decide +kernel
theorem tyX5_ok : ∀ k, k < 5 → parseFieldDescriptor (TX5 k).2.2.1 = some (tyX5 k) := by decide +kernel
abbrev cX5_init : ByteArray := prog_7_method_1_code
def yX5_init : MethodName := ⟨RX5, "<init>", "(LStandingArch$Arch;)V"⟩
abbrev cX5_gather : ByteArray := prog_7_method_2_code
def yX5_gather : MethodName := ⟨RX5, "gather", "([I)V"⟩
abbrev cX5_hold : ByteArray := prog_7_method_3_code
def yX5_hold : MethodName := ⟨RX5, "hold", "()Z"⟩
abbrev cX5_greatestPush : ByteArray := prog_7_method_4_code
def yX5_greatestPush : MethodName := ⟨RX5, "greatestPush", "(LStandingArch$Fraction;)Z"⟩
abbrev cX5_leastPush : ByteArray := prog_7_method_5_code
def yX5_leastPush : MethodName := ⟨RX5, "leastPush", "(LStandingArch$Fraction;)Z"⟩
abbrev cX5_leastFactor : ByteArray := prog_7_method_6_code
def yX5_leastFactor : MethodName := ⟨RX5, "leastFactor", "(LStandingArch$Fraction;)Z"⟩
abbrev cX5_straightFactor : ByteArray := prog_7_method_7_code
def yX5_straightFactor : MethodName := ⟨RX5, "straightFactor", "(LStandingArch$Fraction;)Z"⟩
abbrev cX5_least : ByteArray := prog_7_method_8_code
def yX5_least : MethodName := ⟨RX5, "least", "(IJJ)J"⟩
abbrev cX5_most : ByteArray := prog_7_method_9_code
def yX5_most : MethodName := ⟨RX5, "most", "(IJJ)J"⟩
abbrev cX5_tightestLeast : ByteArray := prog_7_method_10_code
def yX5_tightestLeast : MethodName := ⟨RX5, "tightestLeast", "(JJ)I"⟩
abbrev cX5_tightestMost : ByteArray := prog_7_method_11_code
def yX5_tightestMost : MethodName := ⟨RX5, "tightestMost", "(JJ)I"⟩
abbrev cX5_bars : ByteArray := prog_7_method_12_code
def yX5_bars : MethodName := ⟨RX5, "bars", "(IIJJ)Z"⟩
def RX6 : String := "StandingArch"
def TX6 : u_T := fun k => match k with
  | 0 => ("StandingArch", "arch", "LStandingArch$Arch;", true)
  | 1 => ("StandingArch", "triples", "LStandingArch$Triples;", true)
  | 2 => ("StandingArch", "leastLine", "LStandingArch$LeastLine;", true)
  | 3 => ("StandingArch", "bars", "LStandingArch$Bars;", true)
  | 4 => ("StandingArch", "sheets", "[LStandingArch$Sheet;", true)
  | 5 => ("StandingArch", "trial", "[I", true)
  | 6 => ("StandingArch", "answer", "LStandingArch$Fraction;", true)
  | _ => ("StandingArch", "worst", "LStandingArch$Fraction;", true)
def tyX6 : Nat → FieldType := fun k => match k with
  | 0 => .object "StandingArch$Arch"
  | 1 => .object "StandingArch$Triples"
  | 2 => .object "StandingArch$LeastLine"
  | 3 => .object "StandingArch$Bars"
  | 4 => .array (.object "StandingArch$Sheet")
  | 5 => .array .int
  | 6 => .object "StandingArch$Fraction"
  | _ => .object "StandingArch$Fraction"
abbrev wsX60 : List Cond := u_ws RX6 TX6 8
theorem nmX6 : ∀ a, a < 8 → ∀ b, b < 8 → a ≠ b → (TX6 a).2.1 ≠ (TX6 b).2.1 := by decide +kernel
theorem tyX6_ok : ∀ k, k < 8 → parseFieldDescriptor (TX6 k).2.2.1 = some (tyX6 k) := by decide +kernel
abbrev cX6_init : ByteArray := prog_1_method_1_code
def yX6_init : MethodName := ⟨RX6, "<init>", "()V"⟩
abbrev cX6_joints : ByteArray := prog_1_method_2_code
def yX6_joints : MethodName := ⟨RX6, "joints", "(I)I"⟩
abbrev cX6_at : ByteArray := prog_1_method_3_code
def yX6_at : MethodName := ⟨RX6, "at", "(II)I"⟩
abbrev cX6_edges : ByteArray := prog_1_method_4_code
def yX6_edges : MethodName := ⟨RX6, "edges", "(III)I"⟩
abbrev cX6_load : ByteArray := prog_1_method_5_code
def yX6_load : MethodName := ⟨RX6, "load", "(II)I"⟩
abbrev cX6_sheet : ByteArray := prog_1_method_6_code
def yX6_sheet : MethodName := ⟨RX6, "sheet", "(III)I"⟩
abbrev cX6_drop : ByteArray := prog_1_method_7_code
def yX6_drop : MethodName := ⟨RX6, "drop", "(I)I"⟩
abbrev cX6_item : ByteArray := prog_1_method_8_code
def yX6_item : MethodName := ⟨RX6, "item", "(IIII)I"⟩
abbrev cX6_read : ByteArray := prog_1_method_9_code
def yX6_read : MethodName := ⟨RX6, "read", "(III)I"⟩
abbrev cX6_told : ByteArray := prog_1_method_10_code
def yX6_told : MethodName := ⟨RX6, "told", "(II)I"⟩
abbrev cX6_stands : ByteArray := prog_1_method_11_code
def yX6_stands : MethodName := ⟨RX6, "stands", "()I"⟩
abbrev cX6_thrust : ByteArray := prog_1_method_12_code
def yX6_thrust : MethodName := ⟨RX6, "thrust", "(II)J"⟩
abbrev cX6_height : ByteArray := prog_1_method_13_code
def yX6_height : MethodName := ⟨RX6, "height", "(II)J"⟩
abbrev cX6_bar : ByteArray := prog_1_method_14_code
def yX6_bar : MethodName := ⟨RX6, "bar", "(I)I"⟩
abbrev cX6_fits : ByteArray := prog_1_method_15_code
def yX6_fits : MethodName := ⟨RX6, "fits", "(IIII)I"⟩
abbrev cX6_factor : ByteArray := prog_1_method_16_code
def yX6_factor : MethodName := ⟨RX6, "factor", "(I)J"⟩
abbrev cX6_harms : ByteArray := prog_1_method_17_code
def yX6_harms : MethodName := ⟨RX6, "harms", "(I)I"⟩
abbrev cX6_falls : ByteArray := prog_1_method_18_code
def yX6_falls : MethodName := ⟨RX6, "falls", "()I"⟩
abbrev cX6_spread : ByteArray := prog_1_method_19_code
def yX6_spread : MethodName := ⟨RX6, "spread", "(I)I"⟩
abbrev cX6_holdsUnder : ByteArray := prog_1_method_20_code
def yX6_holdsUnder : MethodName := ⟨RX6, "holdsUnder", "([I)Z"⟩
abbrev cX6_refusalOfRow : ByteArray := prog_1_method_21_code
def yX6_refusalOfRow : MethodName := ⟨RX6, "refusalOfRow", "(II)I"⟩
abbrev cX6_isSheet : ByteArray := prog_1_method_22_code
def yX6_isSheet : MethodName := ⟨RX6, "isSheet", "(I)Z"⟩
abbrev cX6_isLane : ByteArray := prog_1_method_23_code
def yX6_isLane : MethodName := ⟨RX6, "isLane", "(I)Z"⟩
abbrev cX6_isChoice : ByteArray := prog_1_method_24_code
def yX6_isChoice : MethodName := ⟨RX6, "isChoice", "(I)Z"⟩
abbrev cX6_isHeight : ByteArray := prog_1_method_25_code
def yX6_isHeight : MethodName := ⟨RX6, "isHeight", "(I)Z"⟩
abbrev cX6_areEdges : ByteArray := prog_1_method_26_code
def yX6_areEdges : MethodName := ⟨RX6, "areEdges", "(II)Z"⟩
abbrev cX6_isLoad : ByteArray := prog_1_method_27_code
def yX6_isLoad : MethodName := ⟨RX6, "isLoad", "(I)Z"⟩
def RX7 : String := "StandingArchModel"
def TX7 : u_T := fun k => match k with
  | 0 => ("StandingArchModel", "n", "I", false)
  | 1 => ("StandingArchModel", "xs", "[I", true)
  | 2 => ("StandingArchModel", "lows", "[I", true)
  | 3 => ("StandingArchModel", "highs", "[I", true)
  | 4 => ("StandingArchModel", "loads", "[I", true)
  | 5 => ("StandingArchModel", "lanes", "[I", true)
  | 6 => ("StandingArchModel", "sizes", "[I", true)
  | 7 => ("StandingArchModel", "items", "[I", true)
  | 8 => ("StandingArchModel", "row", "[J", true)
  | 9 => ("StandingArchModel", "rows", "I", false)
  | 10 => ("StandingArchModel", "spot", "[J", true)
  | 11 => ("StandingArchModel", "by", "J", false)
  | 12 => ("StandingArchModel", "stands", "Z", false)
  | 13 => ("StandingArchModel", "best", "[J", true)
  | 14 => ("StandingArchModel", "bestBy", "J", false)
  | 15 => ("StandingArchModel", "leastK", "J", false)
  | 16 => ("StandingArchModel", "leastBy", "J", false)
  | 17 => ("StandingArchModel", "bars", "I", false)
  | 18 => ("StandingArchModel", "bar", "[I", true)
  | 19 => ("StandingArchModel", "factorAbove", "J", false)
  | 20 => ("StandingArchModel", "factorBelow", "J", false)
  | _ => ("StandingArchModel", "keptLoads", "[I", true)
def tyX7 : Nat → FieldType := fun k => match k with
  | 0 => .int
  | 1 => .array .int
  | 2 => .array .int
  | 3 => .array .int
  | 4 => .array .int
  | 5 => .array .int
  | 6 => .array .int
  | 7 => .array .int
  | 8 => .array .long
  | 9 => .int
  | 10 => .array .long
  | 11 => .long
  | 12 => .boolean
  | 13 => .array .long
  | 14 => .long
  | 15 => .long
  | 16 => .long
  | 17 => .int
  | 18 => .array .int
  | 19 => .long
  | 20 => .long
  | _ => .array .int
abbrev wsX70 : List Cond := u_ws RX7 TX7 22
theorem nmX7 : ∀ a, a < 22 → ∀ b, b < 22 → a ≠ b → (TX7 a).2.1 ≠ (TX7 b).2.1 := by decide +kernel
theorem tyX7_ok : ∀ k, k < 22 → parseFieldDescriptor (TX7 k).2.2.1 = some (tyX7 k) := by decide +kernel
abbrev cX7_in : ByteArray := prog_9_method_1_code
def yX7_in : MethodName := ⟨RX7, "in", "(JJJ)Z"⟩
abbrev cX7_common : ByteArray := prog_9_method_2_code
def yX7_common : MethodName := ⟨RX7, "common", "(JJ)J"⟩
abbrev cX7_init : ByteArray := prog_9_method_3_code
def yX7_init : MethodName := ⟨RX7, "<init>", "()V"⟩
abbrev cX7_begin : ByteArray := prog_9_method_4_code
def yX7_begin : MethodName := ⟨RX7, "begin", "(I)V"⟩
abbrev cX7_joints : ByteArray := prog_9_method_5_code
def yX7_joints : MethodName := ⟨RX7, "joints", "(I)I"⟩
abbrev cX7_at : ByteArray := prog_9_method_6_code
def yX7_at : MethodName := ⟨RX7, "at", "(II)I"⟩
abbrev cX7_edges : ByteArray := prog_9_method_7_code
def yX7_edges : MethodName := ⟨RX7, "edges", "(III)I"⟩
abbrev cX7_load : ByteArray := prog_9_method_8_code
def yX7_load : MethodName := ⟨RX7, "load", "(II)I"⟩
abbrev cX7_isSheet : ByteArray := prog_9_method_9_code
def yX7_isSheet : MethodName := ⟨RX7, "isSheet", "(II)Z"⟩
abbrev cX7_sheet : ByteArray := prog_9_method_10_code
def yX7_sheet : MethodName := ⟨RX7, "sheet", "(III)I"⟩
abbrev cX7_drop : ByteArray := prog_9_method_11_code
def yX7_drop : MethodName := ⟨RX7, "drop", "(I)I"⟩
abbrev cX7_item : ByteArray := prog_9_method_12_code
def yX7_item : MethodName := ⟨RX7, "item", "(IIII)I"⟩
abbrev cX7_read : ByteArray := prog_9_method_13_code
def yX7_read : MethodName := ⟨RX7, "read", "(III)I"⟩
abbrev cX7_momentAt : ByteArray := prog_9_method_14_code
def yX7_momentAt : MethodName := ⟨RX7, "momentAt", "(I)I"⟩
abbrev cX7_told : ByteArray := prog_9_method_15_code
def yX7_told : MethodName := ⟨RX7, "told", "(II)I"⟩
abbrev cX7_setRow : ByteArray := prog_9_method_16_code
def yX7_setRow : MethodName := ⟨RX7, "setRow", "(IJJJJJ)V"⟩
abbrev cX7_findRows : ByteArray := prog_9_method_17_code
def yX7_findRows : MethodName := ⟨RX7, "findRows", "(Z)V"⟩
abbrev cX7_three : ByteArray := prog_9_method_18_code
def yX7_three : MethodName := ⟨RX7, "three", "(IIIIII)J"⟩
abbrev cX7_keepsAll : ByteArray := prog_9_method_19_code
def yX7_keepsAll : MethodName := ⟨RX7, "keepsAll", "()Z"⟩
abbrev cX7_turnSpot : ByteArray := prog_9_method_20_code
def yX7_turnSpot : MethodName := ⟨RX7, "turnSpot", "()V"⟩
abbrev cX7_meetThree : ByteArray := prog_9_method_21_code
def yX7_meetThree : MethodName := ⟨RX7, "meetThree", "(III)Z"⟩
abbrev cX7_down : ByteArray := prog_9_method_22_code
def yX7_down : MethodName := ⟨RX7, "down", "(JJ)J"⟩
abbrev cX7_compare : ByteArray := prog_9_method_23_code
def yX7_compare : MethodName := ⟨RX7, "compare", "(JJJJ)I"⟩
abbrev cX7_findLines : ByteArray := prog_9_method_24_code
def yX7_findLines : MethodName := ⟨RX7, "findLines", "()V"⟩
abbrev cX7_takeSpot : ByteArray := prog_9_method_25_code
def yX7_takeSpot : MethodName := ⟨RX7, "takeSpot", "()V"⟩
abbrev cX7_isLoose : ByteArray := prog_9_method_26_code
def yX7_isLoose : MethodName := ⟨RX7, "isLoose", "()Z"⟩
abbrev cX7_stands : ByteArray := prog_9_method_27_code
def yX7_stands : MethodName := ⟨RX7, "stands", "()I"⟩
abbrev cX7_thrust : ByteArray := prog_9_method_28_code
def yX7_thrust : MethodName := ⟨RX7, "thrust", "(II)J"⟩
abbrev cX7_height : ByteArray := prog_9_method_29_code
def yX7_height : MethodName := ⟨RX7, "height", "(II)J"⟩
abbrev cX7_fits : ByteArray := prog_9_method_30_code
def yX7_fits : MethodName := ⟨RX7, "fits", "(IIII)I"⟩
abbrev cX7_pair : ByteArray := prog_9_method_31_code
def yX7_pair : MethodName := ⟨RX7, "pair", "(IIII)J"⟩
abbrev cX7_isAgainst : ByteArray := prog_9_method_32_code
def yX7_isAgainst : MethodName := ⟨RX7, "isAgainst", "(IJJJJ)Z"⟩
abbrev cX7_summed : ByteArray := prog_9_method_33_code
def yX7_summed : MethodName := ⟨RX7, "summed", "(IIJJJJ)J"⟩
abbrev cX7_areTwo : ByteArray := prog_9_method_34_code
def yX7_areTwo : MethodName := ⟨RX7, "areTwo", "()Z"⟩
abbrev cX7_areThree : ByteArray := prog_9_method_35_code
def yX7_areThree : MethodName := ⟨RX7, "areThree", "()Z"⟩
abbrev cX7_areFour : ByteArray := prog_9_method_36_code
def yX7_areFour : MethodName := ⟨RX7, "areFour", "()Z"⟩
abbrev cX7_findBars : ByteArray := prog_9_method_37_code
def yX7_findBars : MethodName := ⟨RX7, "findBars", "()I"⟩
abbrev cX7_bar : ByteArray := prog_9_method_38_code
def yX7_bar : MethodName := ⟨RX7, "bar", "(I)I"⟩
abbrev cX7_four : ByteArray := prog_9_method_39_code
def yX7_four : MethodName := ⟨RX7, "four", "(IIIIIIII)J"⟩
abbrev cX7_meetFour : ByteArray := prog_9_method_40_code
def yX7_meetFour : MethodName := ⟨RX7, "meetFour", "(IIII)Z"⟩
abbrev cX7_findFactor : ByteArray := prog_9_method_41_code
def yX7_findFactor : MethodName := ⟨RX7, "findFactor", "()Z"⟩
abbrev cX7_factor : ByteArray := prog_9_method_42_code
def yX7_factor : MethodName := ⟨RX7, "factor", "(I)J"⟩
abbrev cX7_harms : ByteArray := prog_9_method_43_code
def yX7_harms : MethodName := ⟨RX7, "harms", "(I)I"⟩
abbrev cX7_falls : ByteArray := prog_9_method_44_code
def yX7_falls : MethodName := ⟨RX7, "falls", "()I"⟩
abbrev cX7_spread : ByteArray := prog_9_method_45_code
def yX7_spread : MethodName := ⟨RX7, "spread", "(I)I"⟩
def RJ9 : String := "java/lang/Math"
def TJ9 : u_T := fun k => match k with
  | _ => ("", "", "", false)
def tyJ9 : Nat → FieldType := fun k => match k with
  | _ => .int
abbrev wsJ90 : List Cond := u_ws RJ9 TJ9 0
theorem nmJ9 : ∀ a, a < 0 → ∀ b, b < 0 → a ≠ b → (TJ9 a).2.1 ≠ (TJ9 b).2.1 := by decide +kernel
theorem tyJ9_ok : ∀ k, k < 0 → parseFieldDescriptor (TJ9 k).2.2.1 = some (tyJ9 k) := by decide +kernel
abbrev cJ9_abs_067f4 : ByteArray := prog_10_method_61_code
def yJ9_abs_067f4 : MethodName := ⟨RJ9, "abs", "(J)J"⟩
def RJ10 : String := "java/lang/System"
def TJ10 : u_T := fun k => match k with
  | _ => ("", "", "", false)
def tyJ10 : Nat → FieldType := fun k => match k with
  | _ => .int
abbrev wsJ100 : List Cond := u_ws RJ10 TJ10 0
theorem nmJ10 : ∀ a, a < 0 → ∀ b, b < 0 → a ≠ b → (TJ10 a).2.1 ≠ (TJ10 b).2.1 := by decide +kernel
theorem tyJ10_ok : ∀ k, k < 0 → parseFieldDescriptor (TJ10 k).2.2.1 = some (tyJ10 k) := by decide +kernel
def RJ7 : String := "java/util/Arrays"
def TJ7 : u_T := fun k => match k with
  | _ => ("", "", "", false)
def tyJ7 : Nat → FieldType := fun k => match k with
  | _ => .int
abbrev wsJ70 : List Cond := u_ws RJ7 TJ7 0
theorem nmJ7 : ∀ a, a < 0 → ∀ b, b < 0 → a ≠ b → (TJ7 a).2.1 ≠ (TJ7 b).2.1 := by decide +kernel
theorem tyJ7_ok : ∀ k, k < 0 → parseFieldDescriptor (TJ7 k).2.2.1 = some (tyJ7 k) := by decide +kernel
abbrev cJ7_fill_53178 : ByteArray := prog_12_method_103_code
def yJ7_fill_53178 : MethodName := ⟨RJ7, "fill", "([II)V"⟩
def RL : String := "StandingArchLaw"
abbrev cL_law : ByteArray := code
def yL_law : MethodName := ⟨RL, "law", "([I)Z"⟩
def wsJ7_fill_53178 : List Cond := .code yJ7_fill_53178 cJ7_fill_53178 4 none :: ([])
def wsJ9_abs_067f4 : List Cond := .code yJ9_abs_067f4 cJ9_abs_067f4 2 (some .long) :: ([])
def wsL_law_r1 : List Cond := [Cond.classLink RL 7 RX6, Cond.instantiable RX6 8, Cond.initialized RX6, Cond.classLink RL 10 RX7, Cond.instantiable RX7 22, Cond.initialized RX7, Cond.methodLink RL 9 yX6_init, Cond.instanceMethod yX6_init, Cond.code yX6_init cX6_init 2 none, Cond.methodLink RX6 3 objectInit, Cond.instanceMethod objectInit, Cond.code objectInit ⟨#[0xb1]⟩ 1 none, Cond.classLink RX6 9 RX0, Cond.instantiable RX0 6, Cond.initialized RX0, Cond.fieldLink RX6 12 "StandingArch" "arch" "LStandingArch$Arch;", Cond.classLink RX6 16 RX5, Cond.instantiable RX5 5, Cond.initialized RX5, Cond.fieldLink RX6 21 "StandingArch" "triples" "LStandingArch$Triples;", Cond.classLink RX6 25 RX3, Cond.instantiable RX3 7, Cond.initialized RX3, Cond.fieldLink RX6 28 "StandingArch" "leastLine" "LStandingArch$LeastLine;"]
def wsL_law_r2 : List Cond := [Cond.classLink RX6 32 RX1, Cond.instantiable RX1 3, Cond.initialized RX1, Cond.fieldLink RX6 35 "StandingArch" "bars" "LStandingArch$Bars;", Cond.classLink RX6 39 RX4, Cond.fieldLink RX6 41 "StandingArch" "sheets" "[LStandingArch$Sheet;", Cond.arrayClass .int, Cond.fieldLink RX6 45 "StandingArch" "trial" "[I", Cond.classLink RX6 49 RX2, Cond.instantiable RX2 2, Cond.initialized RX2, Cond.fieldLink RX6 52 "StandingArch" "answer" "LStandingArch$Fraction;", Cond.fieldLink RX6 56 "StandingArch" "worst" "LStandingArch$Fraction;", Cond.instantiable RX4 4, Cond.initialized RX4, Cond.instanceMethod yX0_init, Cond.code yX0_init cX0_init 1 none, Cond.methodLink RX0 3 objectInit, Cond.fieldLink RX0 9 "StandingArch$Arch" "place" "[I", Cond.fieldLink RX0 15 "StandingArch$Arch" "low" "[I", Cond.fieldLink RX0 18 "StandingArch$Arch" "high" "[I", Cond.fieldLink RX0 21 "StandingArch$Arch" "weight" "[I", Cond.fieldLink RX0 24 "StandingArch$Arch" "moment" "[I", Cond.methodLink RX6 18 yX5_init]
def wsL_law_r3 : List Cond := [Cond.instanceMethod yX5_init, Cond.code yX5_init cX5_init 2 none, Cond.methodLink RX5 1 objectInit, Cond.arrayClass .long, Cond.fieldLink RX5 9 "StandingArch$Triples" "middle" "[J", Cond.fieldLink RX5 13 "StandingArch$Triples" "room" "[J", Cond.fieldLink RX5 16 "StandingArch$Triples" "bend" "[J", Cond.fieldLink RX5 19 "StandingArch$Triples" "arch" "LStandingArch$Arch;", Cond.methodLink RX6 27 yX3_init, Cond.instanceMethod yX3_init, Cond.code yX3_init cX3_init 2 none, Cond.methodLink RX3 1 objectInit, Cond.fieldLink RX3 7 "StandingArch$LeastLine" "pushBelow" "J", Cond.fieldLink RX3 13 "StandingArch$LeastLine" "startBelow" "J", Cond.fieldLink RX3 16 "StandingArch$LeastLine" "slopeBelow" "J", Cond.fieldLink RX3 19 "StandingArch$LeastLine" "arch" "LStandingArch$Arch;", Cond.methodLink RX6 34 yX1_init, Cond.instanceMethod yX1_init, Cond.code yX1_init cX1_init 2 none, Cond.methodLink RX1 3 objectInit, Cond.fieldLink RX1 9 "StandingArch$Bars" "chosen" "[I", Cond.fieldLink RX1 15 "StandingArch$Bars" "arch" "LStandingArch$Arch;", Cond.instanceMethod yX2_init, Cond.code yX2_init cX2_init 1 none]
def wsL_law_r4 : List Cond := [Cond.methodLink RX2 1 objectInit, Cond.fieldLink RX2 7 "StandingArch$Fraction" "above" "J", Cond.fieldLink RX2 13 "StandingArch$Fraction" "below" "J", Cond.methodLink RX6 59 yX0_renew, Cond.instanceMethod yX0_renew, Cond.selects RX0 yX0_renew yX0_renew, Cond.code yX0_renew cX0_renew 3 none, Cond.fieldLink RX0 27 "StandingArch$Arch" "last" "I", Cond.instanceMethod yX4_init, Cond.code yX4_init cX4_init 1 none, Cond.methodLink RX4 3 objectInit, Cond.fieldLink RX4 9 "StandingArch$Sheet" "items" "[I", Cond.methodLink RL 12 yX7_init, Cond.instanceMethod yX7_init, Cond.code yX7_init cX7_init 2 none, Cond.methodLink RX7 1 objectInit, Cond.fieldLink RX7 7 "StandingArchModel" "n" "I", Cond.fieldLink RX7 13 "StandingArchModel" "xs" "[I", Cond.fieldLink RX7 17 "StandingArchModel" "lows" "[I", Cond.fieldLink RX7 20 "StandingArchModel" "highs" "[I", Cond.fieldLink RX7 23 "StandingArchModel" "loads" "[I", Cond.fieldLink RX7 26 "StandingArchModel" "lanes" "[I", Cond.fieldLink RX7 29 "StandingArchModel" "sizes" "[I", Cond.fieldLink RX7 32 "StandingArchModel" "items" "[I"]
def wsL_law_r5 : List Cond := [Cond.fieldLink RX7 35 "StandingArchModel" "row" "[J", Cond.fieldLink RX7 39 "StandingArchModel" "spot" "[J", Cond.fieldLink RX7 42 "StandingArchModel" "best" "[J", Cond.fieldLink RX7 45 "StandingArchModel" "bar" "[I", Cond.fieldLink RX7 48 "StandingArchModel" "keptLoads" "[I", Cond.methodLink RX7 51 yX7_begin, Cond.instanceMethod yX7_begin, Cond.selects RX7 yX7_begin yX7_begin, Cond.code yX7_begin cX7_begin 3 none, Cond.methodLink RL 13 yX6_joints, Cond.instanceMethod yX6_joints, Cond.selects RX6 yX6_joints yX6_joints, Cond.code yX6_joints cX6_joints 2 (some .int), Cond.methodLink RL 17 yX7_joints, Cond.instanceMethod yX7_joints, Cond.selects RX7 yX7_joints yX7_joints, Cond.code yX7_joints cX7_joints 2 (some .int), Cond.constantLong RX7 55 (2), Cond.constantLong RX7 57 (6), Cond.methodLink RX7 59 yX7_in, Cond.static yX7_in, Cond.code yX7_in cX7_in 6 (some .boolean), Cond.methodLink RL 18 yX6_at, Cond.instanceMethod yX6_at]
def wsL_law_r6 : List Cond := [Cond.selects RX6 yX6_at yX6_at, Cond.code yX6_at cX6_at 4 (some .int), Cond.fieldLink RX6 64 "StandingArch$Arch" "last" "I", Cond.fieldLink RX6 68 "StandingArch$Arch" "place" "[I", Cond.methodLink RL 22 yX7_at, Cond.instanceMethod yX7_at, Cond.selects RX7 yX7_at yX7_at, Cond.code yX7_at cX7_at 4 (some .int), Cond.constantLong RX7 63 (20), Cond.methodLink RL 23 yX6_edges, Cond.instanceMethod yX6_edges, Cond.selects RX6 yX6_edges yX6_edges, Cond.code yX6_edges cX6_edges 4 (some .int), Cond.fieldLink RX6 79 "StandingArch$Arch" "low" "[I", Cond.fieldLink RX6 82 "StandingArch$Arch" "high" "[I", Cond.methodLink RX6 71 yX0_hasJoint, Cond.instanceMethod yX0_hasJoint, Cond.selects RX0 yX0_hasJoint yX0_hasJoint, Cond.code yX0_hasJoint cX0_hasJoint 2 (some .boolean), Cond.methodLink RX6 75 yX6_areEdges, Cond.static yX6_areEdges, Cond.code yX6_areEdges cX6_areEdges 2 (some .boolean), Cond.methodLink RX6 196 yX6_isHeight, Cond.static yX6_isHeight]
def wsL_law_r7 : List Cond := [Cond.code yX6_isHeight cX6_isHeight 1 (some .boolean), Cond.methodLink RL 27 yX7_edges, Cond.instanceMethod yX7_edges, Cond.selects RX7 yX7_edges yX7_edges, Cond.code yX7_edges cX7_edges 4 (some .int), Cond.constantLong RX7 65 (-20), Cond.methodLink RL 28 yX6_load, Cond.instanceMethod yX6_load, Cond.selects RX6 yX6_load yX6_load, Cond.code yX6_load cX6_load 4 (some .int), Cond.fieldLink RX6 91 "StandingArch$Arch" "weight" "[I", Cond.methodLink RX6 85 yX0_hasInnerJoint, Cond.instanceMethod yX0_hasInnerJoint, Cond.selects RX0 yX0_hasInnerJoint yX0_hasInnerJoint, Cond.code yX0_hasInnerJoint cX0_hasInnerJoint 2 (some .boolean), Cond.methodLink RX6 88 yX6_isLoad, Cond.static yX6_isLoad, Cond.code yX6_isLoad cX6_isLoad 1 (some .boolean), Cond.methodLink RL 31 yX7_load, Cond.instanceMethod yX7_load, Cond.selects RX7 yX7_load yX7_load, Cond.code yX7_load cX7_load 4 (some .int), Cond.constantLong RX7 67 (10), Cond.methodLink RL 32 yX6_sheet]
def wsL_law_r8 : List Cond := [Cond.instanceMethod yX6_sheet, Cond.selects RX6 yX6_sheet yX6_sheet, Cond.code yX6_sheet cX6_sheet 4 (some .int), Cond.methodLink RX6 94 yX6_isSheet, Cond.static yX6_isSheet, Cond.code yX6_isSheet cX6_isSheet 1 (some .boolean), Cond.methodLink RX6 97 yX6_isLane, Cond.static yX6_isLane, Cond.code yX6_isLane cX6_isLane 1 (some .boolean), Cond.methodLink RX6 100 yX4_hold, Cond.instanceMethod yX4_hold, Cond.selects RX4 yX4_hold yX4_hold, Cond.code yX4_hold cX4_hold 3 none, Cond.fieldLink RX4 15 "StandingArch$Sheet" "held" "Z", Cond.fieldLink RX4 19 "StandingArch$Sheet" "lane" "I", Cond.fieldLink RX4 23 "StandingArch$Sheet" "size" "I", Cond.methodLink RX4 26 yJ7_fill_53178, Cond.static yJ7_fill_53178, Cond.initialized RJ7, Cond.code yJ7_fill_53178 cJ7_fill_53178 4 none, Cond.methodLink RL 35 yX7_sheet, Cond.instanceMethod yX7_sheet, Cond.selects RX7 yX7_sheet yX7_sheet, Cond.code yX7_sheet cX7_sheet 5 (some .int)]
def wsL_law_r9 : List Cond := [Cond.methodLink RX7 71 yX7_isSheet, Cond.static yX7_isSheet, Cond.code yX7_isSheet cX7_isSheet 2 (some .boolean), Cond.constantLong RX7 69 (3), Cond.methodLink RL 36 yX6_drop, Cond.instanceMethod yX6_drop, Cond.selects RX6 yX6_drop yX6_drop, Cond.code yX6_drop cX6_drop 2 (some .int), Cond.fieldLink RX6 104 "StandingArch$Sheet" "held" "Z", Cond.fieldLink RX6 108 "StandingArch$Sheet" "size" "I", Cond.methodLink RL 39 yX7_drop, Cond.instanceMethod yX7_drop, Cond.selects RX7 yX7_drop yX7_drop, Cond.code yX7_drop cX7_drop 2 (some .int), Cond.methodLink RL 40 yX6_item, Cond.instanceMethod yX6_item, Cond.selects RX6 yX6_item yX6_item, Cond.code yX6_item cX6_item 7 (some .int), Cond.fieldLink RX6 115 "StandingArch$Sheet" "items" "[I", Cond.methodLink RX6 111 yX6_refusalOfRow, Cond.instanceMethod yX6_refusalOfRow, Cond.selects RX6 yX6_refusalOfRow yX6_refusalOfRow, Cond.code yX6_refusalOfRow cX6_refusalOfRow 3 (some .int), Cond.fieldLink RX6 217 "StandingArch$Sheet" "lane" "I"]
def wsL_law_r10 : List Cond := [Cond.methodLink RL 44 yX7_item, Cond.instanceMethod yX7_item, Cond.selects RX7 yX7_item yX7_item, Cond.code yX7_item cX7_item 5 (some .int), Cond.methodLink RL 45 yX6_read, Cond.instanceMethod yX6_read, Cond.selects RX6 yX6_read yX6_read, Cond.code yX6_read cX6_read 6 (some .int), Cond.methodLink RX6 118 yX0_mayTake, Cond.instanceMethod yX0_mayTake, Cond.selects RX0 yX0_mayTake yX0_mayTake, Cond.code yX0_mayTake cX0_mayTake 7 (some .boolean), Cond.methodLink RX6 122 yX0_take, Cond.instanceMethod yX0_take, Cond.selects RX0 yX0_take yX0_take, Cond.code yX0_take cX0_take 5 none, Cond.methodLink RX0 39 yX0_hasInnerJoint, Cond.methodLink RL 48 yX7_read, Cond.instanceMethod yX7_read, Cond.selects RX7 yX7_read yX7_read, Cond.code yX7_read cX7_read 9 (some .int), Cond.methodLink RL 49 yX6_told, Cond.instanceMethod yX6_told, Cond.selects RX6 yX6_told yX6_told]
def wsL_law_r11 : List Cond := [Cond.code yX6_told cX6_told 3 (some .int), Cond.constant RX6 126 (-100001), Cond.fieldLink RX6 131 "StandingArch$Arch" "moment" "[I", Cond.methodLink RX6 127 yX0_weigh, Cond.instanceMethod yX0_weigh, Cond.selects RX0 yX0_weigh yX0_weigh, Cond.code yX0_weigh cX0_weigh 7 none, Cond.methodLink RX0 42 yX0_span, Cond.instanceMethod yX0_span, Cond.selects RX0 yX0_span yX0_span, Cond.code yX0_span cX0_span 1 (some .int), Cond.methodLink RL 52 yX7_told, Cond.instanceMethod yX7_told, Cond.selects RX7 yX7_told yX7_told, Cond.code yX7_told cX7_told 3 (some .int), Cond.constantLong RX7 75 (4), Cond.constant RX7 77 (-100001), Cond.methodLink RX7 78 yX7_momentAt, Cond.instanceMethod yX7_momentAt, Cond.selects RX7 yX7_momentAt yX7_momentAt, Cond.code yX7_momentAt cX7_momentAt 4 (some .int), Cond.methodLink RL 53 yX6_stands, Cond.instanceMethod yX6_stands, Cond.selects RX6 yX6_stands yX6_stands]
def wsL_law_r12 : List Cond := [Cond.code yX6_stands cX6_stands 1 (some .int), Cond.methodLink RX6 134 yX6_holdsUnder, Cond.instanceMethod yX6_holdsUnder, Cond.selects RX6 yX6_holdsUnder yX6_holdsUnder, Cond.code yX6_holdsUnder cX6_holdsUnder 2 (some .boolean), Cond.methodLink RX6 199 yX5_gather, Cond.instanceMethod yX5_gather, Cond.selects RX5 yX5_gather yX5_gather, Cond.code yX5_gather cX5_gather 9 none, Cond.fieldLink RX5 29 "StandingArch$Triples" "count" "I", Cond.fieldLink RX5 33 "StandingArch$Arch" "last" "I", Cond.fieldLink RX5 36 "StandingArch$Arch" "low" "[I", Cond.fieldLink RX5 40 "StandingArch$Arch" "high" "[I", Cond.methodLink RX5 23 yX0_weigh, Cond.methodLink RX5 43 yX0_rise, Cond.instanceMethod yX0_rise, Cond.selects RX0 yX0_rise yX0_rise, Cond.code yX0_rise cX0_rise 8 (some .long), Cond.methodLink RX5 47 yX0_bend, Cond.instanceMethod yX0_bend, Cond.selects RX0 yX0_bend yX0_bend, Cond.code yX0_bend cX0_bend 4 (some .long), Cond.methodLink RX0 46 yX0_rise, Cond.methodLink RX6 214 yX5_hold]
def wsL_law_r13 : List Cond := [Cond.instanceMethod yX5_hold, Cond.selects RX5 yX5_hold yX5_hold, Cond.code yX5_hold cX5_hold 2 (some .boolean), Cond.methodLink RX5 50 Lib.MathLoose.abs_long.x, Cond.static Lib.MathLoose.abs_long.x, Cond.initialized "java/lang/Math", Cond.code Lib.MathLoose.abs_long.x Lib.MathLoose.abs_long.code 2 (some .long), Cond.methodLink RX5 56 yX5_tightestLeast, Cond.instanceMethod yX5_tightestLeast, Cond.selects RX5 yX5_tightestLeast yX5_tightestLeast, Cond.code yX5_tightestLeast cX5_tightestLeast 7 (some .int), Cond.methodLink RX5 86 yX5_least, Cond.instanceMethod yX5_least, Cond.selects RX5 yX5_least yX5_least, Cond.code yX5_least cX5_least 6 (some .long), Cond.methodLink RX5 60 yX5_tightestMost, Cond.instanceMethod yX5_tightestMost, Cond.selects RX5 yX5_tightestMost yX5_tightestMost, Cond.code yX5_tightestMost cX5_tightestMost 7 (some .int), Cond.methodLink RX5 90 yX5_most, Cond.instanceMethod yX5_most, Cond.selects RX5 yX5_most yX5_most, Cond.code yX5_most cX5_most 6 (some .long), Cond.methodLink RX5 63 yX5_bars]
def wsL_law_r14 : List Cond := [Cond.instanceMethod yX5_bars, Cond.selects RX5 yX5_bars yX5_bars, Cond.code yX5_bars cX5_bars 7 (some .boolean), Cond.methodLink RL 57 yX7_stands, Cond.instanceMethod yX7_stands, Cond.selects RX7 yX7_stands yX7_stands, Cond.code yX7_stands cX7_stands 1 (some .int), Cond.fieldLink RX7 114 "StandingArchModel" "stands" "Z", Cond.methodLink RX7 141 yX7_findLines, Cond.instanceMethod yX7_findLines, Cond.selects RX7 yX7_findLines yX7_findLines, Cond.code yX7_findLines cX7_findLines 4 none, Cond.fieldLink RX7 88 "StandingArchModel" "rows" "I", Cond.methodLink RX7 110 yX7_findRows, Cond.instanceMethod yX7_findRows, Cond.selects RX7 yX7_findRows yX7_findRows, Cond.code yX7_findRows cX7_findRows 15 none, Cond.constantLong RX7 86 (-2), Cond.methodLink RX7 82 yX7_setRow, Cond.instanceMethod yX7_setRow, Cond.selects RX7 yX7_setRow yX7_setRow, Cond.code yX7_setRow cX7_setRow 12 none, Cond.methodLink RX7 118 yX7_meetThree, Cond.instanceMethod yX7_meetThree]
def wsL_law_r15 : List Cond := [Cond.selects RX7 yX7_meetThree yX7_meetThree, Cond.code yX7_meetThree cX7_meetThree 4 (some .boolean), Cond.fieldLink RX7 91 "StandingArchModel" "by" "J", Cond.methodLink RX7 95 yX7_three, Cond.instanceMethod yX7_three, Cond.selects RX7 yX7_three yX7_three, Cond.code yX7_three cX7_three 13 (some .long), Cond.methodLink RX7 99 yX7_turnSpot, Cond.instanceMethod yX7_turnSpot, Cond.selects RX7 yX7_turnSpot yX7_turnSpot, Cond.code yX7_turnSpot cX7_turnSpot 2 none, Cond.methodLink RX7 102 yX7_keepsAll, Cond.instanceMethod yX7_keepsAll, Cond.selects RX7 yX7_keepsAll yX7_keepsAll, Cond.code yX7_keepsAll cX7_keepsAll 4 (some .boolean), Cond.methodLink RX7 122 yX7_takeSpot, Cond.instanceMethod yX7_takeSpot, Cond.selects RX7 yX7_takeSpot yX7_takeSpot, Cond.code yX7_takeSpot cX7_takeSpot 12 none, Cond.fieldLink RX7 128 "StandingArchModel" "bestBy" "J", Cond.fieldLink RX7 135 "StandingArchModel" "leastK" "J", Cond.fieldLink RX7 138 "StandingArchModel" "leastBy" "J", Cond.methodLink RX7 125 yX7_common, Cond.static yX7_common]
def wsL_law_r16 : List Cond := [Cond.code yX7_common cX7_common 10 (some .long), Cond.methodLink RX7 131 yX7_compare, Cond.static yX7_compare, Cond.code yX7_compare cX7_compare 25 (some .int), Cond.methodLink RX7 106 yX7_down, Cond.static yX7_down, Cond.code yX7_down cX7_down 6 (some .long), Cond.methodLink RL 58 yX6_thrust, Cond.instanceMethod yX6_thrust, Cond.selects RX6 yX6_thrust yX6_thrust, Cond.code yX6_thrust cX6_thrust 4 (some .long), Cond.constantLong RX6 141 (-1), Cond.constantLong RX6 143 (-2), Cond.fieldLink RX6 152 "StandingArch$Fraction" "above" "J", Cond.constantLong RX6 156 (-4), Cond.fieldLink RX6 158 "StandingArch$Fraction" "below" "J", Cond.methodLink RX6 138 yX6_isChoice, Cond.static yX6_isChoice, Cond.code yX6_isChoice cX6_isChoice 1 (some .boolean), Cond.methodLink RX6 145 yX5_greatestPush, Cond.instanceMethod yX5_greatestPush, Cond.selects RX5 yX5_greatestPush yX5_greatestPush, Cond.code yX5_greatestPush cX5_greatestPush 3 (some .boolean), Cond.constantLong RX5 67 (2)]
def wsL_law_r17 : List Cond := [Cond.methodLink RX5 69 yX2_become, Cond.instanceMethod yX2_become, Cond.selects RX2 yX2_become yX2_become, Cond.code yX2_become cX2_become 7 none, Cond.methodLink RX2 16 Lib.MathLoose.abs_long.x, Cond.methodLink RX2 22 yX2_commonDivisor, Cond.static yX2_commonDivisor, Cond.code yX2_commonDivisor cX2_commonDivisor 7 (some .long), Cond.methodLink RX6 149 yX5_leastPush, Cond.instanceMethod yX5_leastPush, Cond.selects RX5 yX5_leastPush yX5_leastPush, Cond.code yX5_leastPush cX5_leastPush 3 (some .boolean), Cond.methodLink RX6 161 yX0_span, Cond.methodLink RX6 165 yX2_become, Cond.methodLink RX6 169 yX2_part, Cond.instanceMethod yX2_part, Cond.selects RX2 yX2_part yX2_part, Cond.code yX2_part cX2_part 2 (some .long), Cond.methodLink RL 62 yX7_thrust, Cond.instanceMethod yX7_thrust, Cond.selects RX7 yX7_thrust yX7_thrust, Cond.code yX7_thrust cX7_thrust 9 (some .long), Cond.constantLong RX7 144 (-1), Cond.constantLong RX7 149 (-4)]
def wsL_law_r18 : List Cond := [Cond.methodLink RX7 146 yX7_isLoose, Cond.instanceMethod yX7_isLoose, Cond.selects RX7 yX7_isLoose yX7_isLoose, Cond.code yX7_isLoose cX7_isLoose 3 (some .boolean), Cond.methodLink RL 63 yX6_height, Cond.instanceMethod yX6_height, Cond.selects RX6 yX6_height yX6_height, Cond.code yX6_height cX6_height 3 (some .long), Cond.constantLong RX6 173 (-1000000000000001), Cond.constantLong RX6 175 (-1000000000000002), Cond.constantLong RX6 177 (-1000000000000004), Cond.methodLink RX6 179 yX3_lay, Cond.instanceMethod yX3_lay, Cond.selects RX3 yX3_lay yX3_lay, Cond.code yX3_lay cX3_lay 2 none, Cond.fieldLink RX3 23 "StandingArch$Fraction" "above" "J", Cond.fieldLink RX3 28 "StandingArch$LeastLine" "pushAbove" "J", Cond.fieldLink RX3 31 "StandingArch$Fraction" "below" "J", Cond.methodLink RX3 34 yX3_findLeastStart, Cond.instanceMethod yX3_findLeastStart, Cond.selects RX3 yX3_findLeastStart yX3_findLeastStart, Cond.code yX3_findLeastStart cX3_findLeastStart 7 none, Cond.fieldLink RX3 44 "StandingArch$LeastLine" "startAbove" "J", Cond.fieldLink RX3 47 "StandingArch$Arch" "last" "I"]
def wsL_law_r19 : List Cond := [Cond.fieldLink RX3 53 "StandingArch$Arch" "place" "[I", Cond.methodLink RX3 40 yX3_straightLow, Cond.instanceMethod yX3_straightLow, Cond.selects RX3 yX3_straightLow yX3_straightLow, Cond.code yX3_straightLow cX3_straightLow 2 (some .long), Cond.fieldLink RX3 74 "StandingArch$Arch" "low" "[I", Cond.fieldLink RX3 67 "StandingArch$Arch" "moment" "[I", Cond.methodLink RX3 57 yX3_straightHigh, Cond.instanceMethod yX3_straightHigh, Cond.selects RX3 yX3_straightHigh yX3_straightHigh, Cond.code yX3_straightHigh cX3_straightHigh 2 (some .long), Cond.fieldLink RX3 77 "StandingArch$Arch" "high" "[I", Cond.methodLink RX3 37 yX3_findLeastSlope, Cond.instanceMethod yX3_findLeastSlope, Cond.selects RX3 yX3_findLeastSlope yX3_findLeastSlope, Cond.code yX3_findLeastSlope cX3_findLeastSlope 6 none, Cond.fieldLink RX3 60 "StandingArch$LeastLine" "slopeAbove" "J", Cond.methodLink RX3 63 yX0_span, Cond.methodLink RX6 183 yX3_heightInto, Cond.instanceMethod yX3_heightInto, Cond.selects RX3 yX3_heightInto yX3_heightInto, Cond.code yX3_heightInto cX3_heightInto 7 none, Cond.methodLink RX3 70 yX2_become, Cond.methodLink RL 66 yX7_height]
def wsL_law_r20 : List Cond := [Cond.instanceMethod yX7_height, Cond.selects RX7 yX7_height yX7_height, Cond.code yX7_height cX7_height 9 (some .long), Cond.constantLong RX7 151 (-1000000000000001), Cond.constantLong RX7 153 (-1000000000000002), Cond.constantLong RX7 155 (-1000000000000004), Cond.methodLink RL 67 yX6_bar, Cond.instanceMethod yX6_bar, Cond.selects RX6 yX6_bar yX6_bar, Cond.code yX6_bar cX6_bar 2 (some .int), Cond.fieldLink RX6 190 "StandingArch$Bars" "count" "I", Cond.fieldLink RX6 193 "StandingArch$Bars" "chosen" "[I", Cond.methodLink RX6 187 yX1_find, Cond.instanceMethod yX1_find, Cond.selects RX1 yX1_find yX1_find, Cond.code yX1_find cX1_find 1 none, Cond.fieldLink RX1 19 "StandingArch$Bars" "count" "I", Cond.methodLink RX1 23 yX1_findFirst, Cond.instanceMethod yX1_findFirst, Cond.selects RX1 yX1_findFirst yX1_findFirst, Cond.code yX1_findFirst cX1_findFirst 6 (some .boolean), Cond.fieldLink RX1 27 "StandingArch$Arch" "last" "I", Cond.methodLink RX1 32 yX1_barsThree, Cond.instanceMethod yX1_barsThree]
def wsL_law_r21 : List Cond := [Cond.selects RX1 yX1_barsThree yX1_barsThree, Cond.code yX1_barsThree cX1_barsThree 5 (some .boolean), Cond.methodLink RX1 39 yX0_bend, Cond.methodLink RX1 43 yX1_isBeyondChord, Cond.instanceMethod yX1_isBeyondChord, Cond.selects RX1 yX1_isBeyondChord yX1_isBeyondChord, Cond.code yX1_isBeyondChord cX1_isBeyondChord 5 (some .boolean), Cond.fieldLink RX1 54 "StandingArch$Arch" "high" "[I", Cond.fieldLink RX1 57 "StandingArch$Arch" "low" "[I", Cond.methodLink RX1 60 yX0_rise, Cond.methodLink RX1 46 yX1_keep, Cond.instanceMethod yX1_keep, Cond.selects RX1 yX1_keep yX1_keep, Cond.code yX1_keep cX1_keep 5 none, Cond.methodLink RX1 36 yX1_barsFour, Cond.instanceMethod yX1_barsFour, Cond.selects RX1 yX1_barsFour yX1_barsFour, Cond.code yX1_barsFour cX1_barsFour 6 (some .boolean), Cond.methodLink RX1 50 yX1_isCrossed, Cond.instanceMethod yX1_isCrossed, Cond.selects RX1 yX1_isCrossed yX1_isCrossed, Cond.code yX1_isCrossed cX1_isCrossed 10 (some .boolean), Cond.methodLink RL 70 yX7_bar, Cond.instanceMethod yX7_bar]
def wsL_law_r22 : List Cond := [Cond.selects RX7 yX7_bar yX7_bar, Cond.code yX7_bar cX7_bar 2 (some .int), Cond.fieldLink RX7 184 "StandingArchModel" "bars" "I", Cond.methodLink RX7 180 yX7_findBars, Cond.instanceMethod yX7_findBars, Cond.selects RX7 yX7_findBars yX7_findBars, Cond.code yX7_findBars cX7_findBars 1 (some .int), Cond.methodLink RX7 171 yX7_areTwo, Cond.instanceMethod yX7_areTwo, Cond.selects RX7 yX7_areTwo yX7_areTwo, Cond.code yX7_areTwo cX7_areTwo 2 (some .boolean), Cond.methodLink RX7 163 yX7_isAgainst, Cond.instanceMethod yX7_isAgainst, Cond.selects RX7 yX7_isAgainst yX7_isAgainst, Cond.code yX7_isAgainst cX7_isAgainst 14 (some .boolean), Cond.methodLink RX7 159 yX7_summed, Cond.instanceMethod yX7_summed, Cond.selects RX7 yX7_summed yX7_summed, Cond.code yX7_summed cX7_summed 13 (some .long), Cond.methodLink RX7 174 yX7_areThree, Cond.instanceMethod yX7_areThree, Cond.selects RX7 yX7_areThree yX7_areThree, Cond.code yX7_areThree cX7_areThree 4 (some .boolean), Cond.methodLink RX7 167 yX7_pair]
def wsL_law_r23 : List Cond := [Cond.instanceMethod yX7_pair, Cond.selects RX7 yX7_pair yX7_pair, Cond.code yX7_pair cX7_pair 5 (some .long), Cond.methodLink RX7 177 yX7_areFour, Cond.instanceMethod yX7_areFour, Cond.selects RX7 yX7_areFour yX7_areFour, Cond.code yX7_areFour cX7_areFour 9 (some .boolean), Cond.methodLink RL 71 yX6_fits, Cond.instanceMethod yX6_fits, Cond.selects RX6 yX6_fits yX6_fits, Cond.code yX6_fits cX6_fits 12 (some .int), Cond.methodLink RL 74 yX7_fits, Cond.instanceMethod yX7_fits, Cond.selects RX7 yX7_fits yX7_fits, Cond.code yX7_fits cX7_fits 5 (some .int), Cond.constantLong RX7 157 (1000), Cond.methodLink RL 75 yX6_factor, Cond.instanceMethod yX6_factor, Cond.selects RX6 yX6_factor yX6_factor, Cond.code yX6_factor cX6_factor 2 (some .long), Cond.methodLink RX6 202 yX5_leastFactor, Cond.instanceMethod yX5_leastFactor, Cond.selects RX5 yX5_leastFactor yX5_leastFactor, Cond.code yX5_leastFactor cX5_leastFactor 7 (some .boolean)]
def wsL_law_r24 : List Cond := [Cond.fieldLink RX5 79 "StandingArch$Fraction" "above" "J", Cond.fieldLink RX5 83 "StandingArch$Fraction" "below" "J", Cond.methodLink RX5 75 yX5_straightFactor, Cond.instanceMethod yX5_straightFactor, Cond.selects RX5 yX5_straightFactor yX5_straightFactor, Cond.code yX5_straightFactor cX5_straightFactor 5 (some .boolean), Cond.methodLink RL 79 yX7_factor, Cond.instanceMethod yX7_factor, Cond.selects RX7 yX7_factor yX7_factor, Cond.code yX7_factor cX7_factor 2 (some .long), Cond.fieldLink RX7 194 "StandingArchModel" "factorAbove" "J", Cond.fieldLink RX7 191 "StandingArchModel" "factorBelow" "J", Cond.methodLink RX7 201 yX7_findFactor, Cond.instanceMethod yX7_findFactor, Cond.selects RX7 yX7_findFactor yX7_findFactor, Cond.code yX7_findFactor cX7_findFactor 7 (some .boolean), Cond.methodLink RX7 197 yX7_meetFour, Cond.instanceMethod yX7_meetFour, Cond.selects RX7 yX7_meetFour yX7_meetFour, Cond.code yX7_meetFour cX7_meetFour 5 (some .boolean), Cond.methodLink RX7 187 yX7_four, Cond.instanceMethod yX7_four, Cond.selects RX7 yX7_four yX7_four, Cond.code yX7_four cX7_four 9 (some .long)]
def wsL_law_r25 : List Cond := [Cond.methodLink RL 80 yX6_harms, Cond.instanceMethod yX6_harms, Cond.selects RX6 yX6_harms yX6_harms, Cond.code yX6_harms cX6_harms 4 (some .int), Cond.methodLink RX6 205 arraycopyName, Cond.native arraycopyName, Cond.static arraycopyName, Cond.initialized "java/lang/System", Cond.methodLink RX6 211 yX2_isAbove, Cond.instanceMethod yX2_isAbove, Cond.selects RX2 yX2_isAbove yX2_isAbove, Cond.code yX2_isAbove cX2_isAbove 2 (some .boolean), Cond.methodLink RL 83 yX7_harms, Cond.instanceMethod yX7_harms, Cond.selects RX7 yX7_harms yX7_harms, Cond.code yX7_harms cX7_harms 9 (some .int), Cond.methodLink RL 84 yX6_falls, Cond.instanceMethod yX6_falls, Cond.selects RX6 yX6_falls yX6_falls, Cond.code yX6_falls cX6_falls 5 (some .int), Cond.methodLink RL 87 yX7_falls, Cond.instanceMethod yX7_falls, Cond.selects RX7 yX7_falls yX7_falls, Cond.code yX7_falls cX7_falls 5 (some .int)]
def wsL_law_r26 : List Cond := [Cond.methodLink RL 88 yX6_spread, Cond.instanceMethod yX6_spread, Cond.selects RX6 yX6_spread yX6_spread, Cond.code yX6_spread cX6_spread 3 (some .int), Cond.methodLink RL 91 yX7_spread, Cond.instanceMethod yX7_spread, Cond.selects RX7 yX7_spread yX7_spread, Cond.code yX7_spread cX7_spread 2 (some .int), Cond.constantLong RX7 204 (-10)]
def wsL_law : List Cond := (wsL_law_r1 ++ (wsL_law_r2 ++ (wsL_law_r3 ++ (wsL_law_r4 ++ (wsL_law_r5 ++ (wsL_law_r6 ++ (wsL_law_r7 ++ (wsL_law_r8 ++ (wsL_law_r9 ++ (wsL_law_r10 ++ (wsL_law_r11 ++ (wsL_law_r12 ++ (wsL_law_r13 ++ (wsL_law_r14 ++ (wsL_law_r15 ++ (wsL_law_r16 ++ (wsL_law_r17 ++ (wsL_law_r18 ++ (wsL_law_r19 ++ (wsL_law_r20 ++ (wsL_law_r21 ++ (wsL_law_r22 ++ (wsL_law_r23 ++ (wsL_law_r24 ++ (wsL_law_r25 ++ wsL_law_r26))))))))))))))))))))))))) ++ wsX60 ++ wsX70 ++ wsX00 ++ wsX50 ++ wsX30 ++ wsX10 ++ wsX20 ++ wsX40 ++ ([] : List Cond)
theorem inlX0 : ∀ w ∈ wsX00, w ∈ wsL_law := fun _ h => List.mem_append_left _ (List.mem_append_left _ (List.mem_append_left _ (List.mem_append_left _ (List.mem_append_left _ (List.mem_append_left _ (List.mem_append_right _ h))))))
theorem inlX1 : ∀ w ∈ wsX10, w ∈ wsL_law := fun _ h => List.mem_append_left _ (List.mem_append_left _ (List.mem_append_left _ (List.mem_append_right _ h)))
theorem inlX2 : ∀ w ∈ wsX20, w ∈ wsL_law := fun _ h => List.mem_append_left _ (List.mem_append_left _ (List.mem_append_right _ h))
theorem inlX3 : ∀ w ∈ wsX30, w ∈ wsL_law := fun _ h => List.mem_append_left _ (List.mem_append_left _ (List.mem_append_left _ (List.mem_append_left _ (List.mem_append_right _ h))))
theorem inlX4 : ∀ w ∈ wsX40, w ∈ wsL_law := fun _ h => List.mem_append_left _ (List.mem_append_right _ h)
theorem inlX5 : ∀ w ∈ wsX50, w ∈ wsL_law := fun _ h => List.mem_append_left _ (List.mem_append_left _ (List.mem_append_left _ (List.mem_append_left _ (List.mem_append_left _ (List.mem_append_right _ h)))))
theorem inlX6 : ∀ w ∈ wsX60, w ∈ wsL_law := fun _ h => List.mem_append_left _ (List.mem_append_left _ (List.mem_append_left _ (List.mem_append_left _ (List.mem_append_left _ (List.mem_append_left _ (List.mem_append_left _ (List.mem_append_left _ (List.mem_append_right _ h))))))))
theorem inlX7 : ∀ w ∈ wsX70, w ∈ wsL_law := fun _ h => List.mem_append_left _ (List.mem_append_left _ (List.mem_append_left _ (List.mem_append_left _ (List.mem_append_left _ (List.mem_append_left _ (List.mem_append_left _ (List.mem_append_right _ h)))))))
abbrev vwCl : List vw_C := [(RX0, TX0, 6), (RX1, TX1, 3), (RX2, TX2, 2), (RX3, TX3, 7), (RX4, TX4, 4), (RX5, TX5, 5), (RX6, TX6, 8), (RX7, TX7, 22)]
end
section
theorem dX0_init_0 : decode cX0_init 0 = .ok (.aload_n 0, 1) := by decide +kernel
theorem dX0_init_1 : decode cX0_init 1 = .ok (.invokespecial 3, 3) := by decide +kernel
theorem dX0_init_4 : decode cX0_init 4 = .ok (.aload_n 0, 1) := by decide +kernel
theorem dX0_init_5 : decode cX0_init 5 = .ok (.bipush 7, 2) := by decide +kernel
theorem dX0_init_7 : decode cX0_init 7 = .ok (.newarray .int, 2) := by decide +kernel
theorem dX0_init_9 : decode cX0_init 9 = .ok (.putfield 9, 3) := by decide +kernel
theorem dX0_init_12 : decode cX0_init 12 = .ok (.aload_n 0, 1) := by decide +kernel
theorem dX0_init_13 : decode cX0_init 13 = .ok (.bipush 7, 2) := by decide +kernel
theorem dX0_init_15 : decode cX0_init 15 = .ok (.newarray .int, 2) := by decide +kernel
theorem dX0_init_17 : decode cX0_init 17 = .ok (.putfield 15, 3) := by decide +kernel
theorem dX0_init_20 : decode cX0_init 20 = .ok (.aload_n 0, 1) := by decide +kernel
theorem dX0_init_21 : decode cX0_init 21 = .ok (.bipush 7, 2) := by decide +kernel
theorem dX0_init_23 : decode cX0_init 23 = .ok (.newarray .int, 2) := by decide +kernel
theorem dX0_init_25 : decode cX0_init 25 = .ok (.putfield 18, 3) := by decide +kernel
theorem dX0_init_28 : decode cX0_init 28 = .ok (.aload_n 0, 1) := by decide +kernel
theorem dX0_init_29 : decode cX0_init 29 = .ok (.bipush 7, 2) := by decide +kernel
theorem dX0_init_31 : decode cX0_init 31 = .ok (.newarray .int, 2) := by decide +kernel
theorem dX0_init_33 : decode cX0_init 33 = .ok (.putfield 21, 3) := by decide +kernel
theorem dX0_init_36 : decode cX0_init 36 = .ok (.aload_n 0, 1) := by decide +kernel
theorem dX0_init_37 : decode cX0_init 37 = .ok (.bipush 7, 2) := by decide +kernel
theorem dX0_init_39 : decode cX0_init 39 = .ok (.newarray .int, 2) := by decide +kernel
theorem dX0_init_41 : decode cX0_init 41 = .ok (.putfield 24, 3) := by decide +kernel
theorem dX0_init_44 : decode cX0_init 44 = .ok (.return_, 1) := by decide +kernel
theorem dX0_renew_0 : decode cX0_renew 0 = .ok (.iload_n 1, 1) := by decide +kernel
theorem dX0_renew_1 : decode cX0_renew 1 = .ok (.iconst 2, 1) := by decide +kernel
theorem dX0_renew_2 : decode cX0_renew 2 = .ok (.if_icmp .lt 9, 3) := by decide +kernel
theorem dX0_renew_5 : decode cX0_renew 5 = .ok (.iload_n 1, 1) := by decide +kernel
theorem dX0_renew_6 : decode cX0_renew 6 = .ok (.bipush 6, 2) := by decide +kernel
theorem dX0_renew_8 : decode cX0_renew 8 = .ok (.if_icmp .le 4, 3) := by decide +kernel
theorem dX0_renew_11 : decode cX0_renew 11 = .ok (.return_, 1) := by decide +kernel
theorem dX0_renew_12 : decode cX0_renew 12 = .ok (.aload_n 0, 1) := by decide +kernel
theorem dX0_renew_13 : decode cX0_renew 13 = .ok (.iload_n 1, 1) := by decide +kernel
theorem dX0_renew_14 : decode cX0_renew 14 = .ok (.putfield 27, 3) := by decide +kernel
theorem dX0_renew_17 : decode cX0_renew 17 = .ok (.iconst 0, 1) := by decide +kernel
theorem dX0_renew_18 : decode cX0_renew 18 = .ok (.istore_n 2, 1) := by decide +kernel
theorem dX0_renew_19 : decode cX0_renew 19 = .ok (.iload_n 2, 1) := by decide +kernel
theorem dX0_renew_20 : decode cX0_renew 20 = .ok (.iload_n 1, 1) := by decide +kernel
theorem dX0_renew_21 : decode cX0_renew 21 = .ok (.if_icmp .gt 42, 3) := by decide +kernel
theorem dX0_renew_24 : decode cX0_renew 24 = .ok (.aload_n 0, 1) := by decide +kernel
theorem dX0_renew_25 : decode cX0_renew 25 = .ok (.getfield 9, 3) := by decide +kernel
theorem dX0_renew_28 : decode cX0_renew 28 = .ok (.iload_n 2, 1) := by decide +kernel
theorem dX0_renew_29 : decode cX0_renew 29 = .ok (.bipush 20, 2) := by decide +kernel
theorem dX0_renew_31 : decode cX0_renew 31 = .ok (.iload_n 2, 1) := by decide +kernel
theorem dX0_renew_32 : decode cX0_renew 32 = .ok (.imul, 1) := by decide +kernel
theorem dX0_renew_33 : decode cX0_renew 33 = .ok (.iload_n 1, 1) := by decide +kernel
theorem dX0_renew_34 : decode cX0_renew 34 = .ok (.idiv, 1) := by decide +kernel
theorem dX0_renew_35 : decode cX0_renew 35 = .ok (.iastore, 1) := by decide +kernel
theorem dX0_renew_36 : decode cX0_renew 36 = .ok (.aload_n 0, 1) := by decide +kernel
theorem dX0_renew_37 : decode cX0_renew 37 = .ok (.getfield 15, 3) := by decide +kernel
theorem dX0_renew_40 : decode cX0_renew 40 = .ok (.iload_n 2, 1) := by decide +kernel
theorem dX0_renew_41 : decode cX0_renew 41 = .ok (.iconst 0, 1) := by decide +kernel
theorem dX0_renew_42 : decode cX0_renew 42 = .ok (.iastore, 1) := by decide +kernel
theorem dX0_renew_43 : decode cX0_renew 43 = .ok (.aload_n 0, 1) := by decide +kernel
theorem dX0_renew_44 : decode cX0_renew 44 = .ok (.getfield 18, 3) := by decide +kernel
theorem dX0_renew_47 : decode cX0_renew 47 = .ok (.iload_n 2, 1) := by decide +kernel
theorem dX0_renew_48 : decode cX0_renew 48 = .ok (.iconst 1, 1) := by decide +kernel
theorem dX0_renew_49 : decode cX0_renew 49 = .ok (.iastore, 1) := by decide +kernel
theorem dX0_renew_50 : decode cX0_renew 50 = .ok (.aload_n 0, 1) := by decide +kernel
theorem dX0_renew_51 : decode cX0_renew 51 = .ok (.getfield 21, 3) := by decide +kernel
theorem dX0_renew_54 : decode cX0_renew 54 = .ok (.iload_n 2, 1) := by decide +kernel
theorem dX0_renew_55 : decode cX0_renew 55 = .ok (.iconst 0, 1) := by decide +kernel
theorem dX0_renew_56 : decode cX0_renew 56 = .ok (.iastore, 1) := by decide +kernel
theorem dX0_renew_57 : decode cX0_renew 57 = .ok (.iinc 2 1, 3) := by decide +kernel
theorem dX0_renew_60 : decode cX0_renew 60 = .ok (.goto (-41), 3) := by decide +kernel
theorem dX0_renew_63 : decode cX0_renew 63 = .ok (.return_, 1) := by decide +kernel
theorem dX0_span_0 : decode cX0_span 0 = .ok (.aload_n 0, 1) := by decide +kernel
theorem dX0_span_1 : decode cX0_span 1 = .ok (.getfield 9, 3) := by decide +kernel
theorem dX0_span_4 : decode cX0_span 4 = .ok (.aload_n 0, 1) := by decide +kernel
theorem dX0_span_5 : decode cX0_span 5 = .ok (.getfield 27, 3) := by decide +kernel
theorem dX0_span_8 : decode cX0_span 8 = .ok (.iaload, 1) := by decide +kernel
theorem dX0_span_9 : decode cX0_span 9 = .ok (.ireturn, 1) := by decide +kernel
theorem dX0_hasJoint_0 : decode cX0_hasJoint 0 = .ok (.iload_n 1, 1) := by decide +kernel
theorem dX0_hasJoint_1 : decode cX0_hasJoint 1 = .ok (.ifCond .lt 15, 3) := by decide +kernel
theorem dX0_hasJoint_4 : decode cX0_hasJoint 4 = .ok (.iload_n 1, 1) := by decide +kernel
theorem dX0_hasJoint_5 : decode cX0_hasJoint 5 = .ok (.aload_n 0, 1) := by decide +kernel
theorem dX0_hasJoint_6 : decode cX0_hasJoint 6 = .ok (.getfield 27, 3) := by decide +kernel
theorem dX0_hasJoint_9 : decode cX0_hasJoint 9 = .ok (.if_icmp .gt 7, 3) := by decide +kernel
theorem dX0_hasJoint_12 : decode cX0_hasJoint 12 = .ok (.iconst 1, 1) := by decide +kernel
theorem dX0_hasJoint_13 : decode cX0_hasJoint 13 = .ok (.goto 4, 3) := by decide +kernel
theorem dX0_hasJoint_16 : decode cX0_hasJoint 16 = .ok (.iconst 0, 1) := by decide +kernel
theorem dX0_hasJoint_17 : decode cX0_hasJoint 17 = .ok (.ireturn, 1) := by decide +kernel
theorem dX0_hasInnerJoint_0 : decode cX0_hasInnerJoint 0 = .ok (.iload_n 1, 1) := by decide +kernel
theorem dX0_hasInnerJoint_1 : decode cX0_hasInnerJoint 1 = .ok (.iconst 1, 1) := by decide +kernel
theorem dX0_hasInnerJoint_2 : decode cX0_hasInnerJoint 2 = .ok (.if_icmp .lt 15, 3) := by decide +kernel
theorem dX0_hasInnerJoint_5 : decode cX0_hasInnerJoint 5 = .ok (.iload_n 1, 1) := by decide +kernel
theorem dX0_hasInnerJoint_6 : decode cX0_hasInnerJoint 6 = .ok (.aload_n 0, 1) := by decide +kernel
theorem dX0_hasInnerJoint_7 : decode cX0_hasInnerJoint 7 = .ok (.getfield 27, 3) := by decide +kernel
theorem dX0_hasInnerJoint_10 : decode cX0_hasInnerJoint 10 = .ok (.if_icmp .ge 7, 3) := by decide +kernel
theorem dX0_hasInnerJoint_13 : decode cX0_hasInnerJoint 13 = .ok (.iconst 1, 1) := by decide +kernel
theorem dX0_hasInnerJoint_14 : decode cX0_hasInnerJoint 14 = .ok (.goto 4, 3) := by decide +kernel
theorem dX0_hasInnerJoint_17 : decode cX0_hasInnerJoint 17 = .ok (.iconst 0, 1) := by decide +kernel
theorem dX0_hasInnerJoint_18 : decode cX0_hasInnerJoint 18 = .ok (.ireturn, 1) := by decide +kernel
theorem dX0_mayTake_0 : decode cX0_mayTake 0 = .ok (.iconst (-1), 1) := by decide +kernel
theorem dX0_mayTake_1 : decode cX0_mayTake 1 = .ok (.istore_n 3, 1) := by decide +kernel
theorem dX0_mayTake_2 : decode cX0_mayTake 2 = .ok (.iconst 0, 1) := by decide +kernel
theorem dX0_mayTake_3 : decode cX0_mayTake 3 = .ok (.istore 4, 2) := by decide +kernel
theorem dX0_mayTake_5 : decode cX0_mayTake 5 = .ok (.iload 4, 2) := by decide +kernel
theorem dX0_mayTake_7 : decode cX0_mayTake 7 = .ok (.aload_n 0, 1) := by decide +kernel
theorem dX0_mayTake_8 : decode cX0_mayTake 8 = .ok (.getfield 27, 3) := by decide +kernel
theorem dX0_mayTake_11 : decode cX0_mayTake 11 = .ok (.if_icmp .gt 83, 3) := by decide +kernel
theorem dX0_mayTake_14 : decode cX0_mayTake 14 = .ok (.iload_n 2, 1) := by decide +kernel
theorem dX0_mayTake_15 : decode cX0_mayTake 15 = .ok (.iconst 4, 1) := by decide +kernel
theorem dX0_mayTake_16 : decode cX0_mayTake 16 = .ok (.iload 4, 2) := by decide +kernel
theorem dX0_mayTake_18 : decode cX0_mayTake 18 = .ok (.imul, 1) := by decide +kernel
theorem dX0_mayTake_19 : decode cX0_mayTake 19 = .ok (.iadd, 1) := by decide +kernel
theorem dX0_mayTake_20 : decode cX0_mayTake 20 = .ok (.istore 5, 2) := by decide +kernel
theorem dX0_mayTake_22 : decode cX0_mayTake 22 = .ok (.aload_n 1, 1) := by decide +kernel
theorem dX0_mayTake_23 : decode cX0_mayTake 23 = .ok (.iload 5, 2) := by decide +kernel
theorem dX0_mayTake_25 : decode cX0_mayTake 25 = .ok (.iaload, 1) := by decide +kernel
theorem dX0_mayTake_26 : decode cX0_mayTake 26 = .ok (.istore 6, 2) := by decide +kernel
theorem dX0_mayTake_28 : decode cX0_mayTake 28 = .ok (.iload 6, 2) := by decide +kernel
theorem dX0_mayTake_30 : decode cX0_mayTake 30 = .ok (.iload_n 3, 1) := by decide +kernel
theorem dX0_mayTake_31 : decode cX0_mayTake 31 = .ok (.if_icmp .le 20, 3) := by decide +kernel
theorem dX0_mayTake_34 : decode cX0_mayTake 34 = .ok (.iload 6, 2) := by decide +kernel
theorem dX0_mayTake_36 : decode cX0_mayTake 36 = .ok (.bipush 20, 2) := by decide +kernel
theorem dX0_mayTake_38 : decode cX0_mayTake 38 = .ok (.if_icmp .gt 13, 3) := by decide +kernel
theorem dX0_mayTake_41 : decode cX0_mayTake 41 = .ok (.iload 4, 2) := by decide +kernel
theorem dX0_mayTake_43 : decode cX0_mayTake 43 = .ok (.ifCond .ne 10, 3) := by decide +kernel
theorem dX0_mayTake_46 : decode cX0_mayTake 46 = .ok (.iload 6, 2) := by decide +kernel
theorem dX0_mayTake_48 : decode cX0_mayTake 48 = .ok (.ifCond .eq 5, 3) := by decide +kernel
theorem dX0_mayTake_51 : decode cX0_mayTake 51 = .ok (.iconst 0, 1) := by decide +kernel
theorem dX0_mayTake_52 : decode cX0_mayTake 52 = .ok (.ireturn, 1) := by decide +kernel
theorem dX0_mayTake_53 : decode cX0_mayTake 53 = .ok (.aload_n 1, 1) := by decide +kernel
theorem dX0_mayTake_54 : decode cX0_mayTake 54 = .ok (.iload 5, 2) := by decide +kernel
theorem dX0_mayTake_56 : decode cX0_mayTake 56 = .ok (.iconst 1, 1) := by decide +kernel
theorem dX0_mayTake_57 : decode cX0_mayTake 57 = .ok (.iadd, 1) := by decide +kernel
theorem dX0_mayTake_58 : decode cX0_mayTake 58 = .ok (.iaload, 1) := by decide +kernel
theorem dX0_mayTake_59 : decode cX0_mayTake 59 = .ok (.aload_n 1, 1) := by decide +kernel
theorem dX0_mayTake_60 : decode cX0_mayTake 60 = .ok (.iload 5, 2) := by decide +kernel
theorem dX0_mayTake_62 : decode cX0_mayTake 62 = .ok (.iconst 2, 1) := by decide +kernel
theorem dX0_mayTake_63 : decode cX0_mayTake 63 = .ok (.iadd, 1) := by decide +kernel
theorem dX0_mayTake_64 : decode cX0_mayTake 64 = .ok (.iaload, 1) := by decide +kernel
theorem dX0_mayTake_65 : decode cX0_mayTake 65 = .ok (.invokestatic 31, 3) := by decide +kernel
theorem dX0_mayTake_68 : decode cX0_mayTake 68 = .ok (.ifCond .eq 15, 3) := by decide +kernel
theorem dX0_mayTake_71 : decode cX0_mayTake 71 = .ok (.aload_n 1, 1) := by decide +kernel
theorem dX0_mayTake_72 : decode cX0_mayTake 72 = .ok (.iload 5, 2) := by decide +kernel
theorem dX0_mayTake_74 : decode cX0_mayTake 74 = .ok (.iconst 3, 1) := by decide +kernel
theorem dX0_mayTake_75 : decode cX0_mayTake 75 = .ok (.iadd, 1) := by decide +kernel
theorem dX0_mayTake_76 : decode cX0_mayTake 76 = .ok (.iaload, 1) := by decide +kernel
theorem dX0_mayTake_77 : decode cX0_mayTake 77 = .ok (.invokestatic 35, 3) := by decide +kernel
theorem dX0_mayTake_80 : decode cX0_mayTake 80 = .ok (.ifCond .ne 5, 3) := by decide +kernel
theorem dX0_mayTake_83 : decode cX0_mayTake 83 = .ok (.iconst 0, 1) := by decide +kernel
theorem dX0_mayTake_84 : decode cX0_mayTake 84 = .ok (.ireturn, 1) := by decide +kernel
theorem dX0_mayTake_85 : decode cX0_mayTake 85 = .ok (.iload 6, 2) := by decide +kernel
theorem dX0_mayTake_87 : decode cX0_mayTake 87 = .ok (.istore_n 3, 1) := by decide +kernel
theorem dX0_mayTake_88 : decode cX0_mayTake 88 = .ok (.iinc 4 1, 3) := by decide +kernel
theorem dX0_mayTake_91 : decode cX0_mayTake 91 = .ok (.goto (-86), 3) := by decide +kernel
theorem dX0_mayTake_94 : decode cX0_mayTake 94 = .ok (.iconst 1, 1) := by decide +kernel
theorem dX0_mayTake_95 : decode cX0_mayTake 95 = .ok (.ireturn, 1) := by decide +kernel
theorem dX0_take_0 : decode cX0_take 0 = .ok (.iconst 0, 1) := by decide +kernel
theorem dX0_take_1 : decode cX0_take 1 = .ok (.istore_n 3, 1) := by decide +kernel
theorem dX0_take_2 : decode cX0_take 2 = .ok (.iload_n 3, 1) := by decide +kernel
theorem dX0_take_3 : decode cX0_take 3 = .ok (.aload_n 0, 1) := by decide +kernel
theorem dX0_take_4 : decode cX0_take 4 = .ok (.getfield 27, 3) := by decide +kernel
theorem dX0_take_7 : decode cX0_take 7 = .ok (.if_icmp .gt 74, 3) := by decide +kernel
theorem dX0_take_10 : decode cX0_take 10 = .ok (.iload_n 2, 1) := by decide +kernel
theorem dX0_take_11 : decode cX0_take 11 = .ok (.iconst 4, 1) := by decide +kernel
theorem dX0_take_12 : decode cX0_take 12 = .ok (.iload_n 3, 1) := by decide +kernel
theorem dX0_take_13 : decode cX0_take 13 = .ok (.imul, 1) := by decide +kernel
theorem dX0_take_14 : decode cX0_take 14 = .ok (.iadd, 1) := by decide +kernel
theorem dX0_take_15 : decode cX0_take 15 = .ok (.istore 4, 2) := by decide +kernel
theorem dX0_take_17 : decode cX0_take 17 = .ok (.aload_n 0, 1) := by decide +kernel
theorem dX0_take_18 : decode cX0_take 18 = .ok (.getfield 9, 3) := by decide +kernel
theorem dX0_take_21 : decode cX0_take 21 = .ok (.iload_n 3, 1) := by decide +kernel
theorem dX0_take_22 : decode cX0_take 22 = .ok (.aload_n 1, 1) := by decide +kernel
theorem dX0_take_23 : decode cX0_take 23 = .ok (.iload 4, 2) := by decide +kernel
theorem dX0_take_25 : decode cX0_take 25 = .ok (.iaload, 1) := by decide +kernel
theorem dX0_take_26 : decode cX0_take 26 = .ok (.iastore, 1) := by decide +kernel
theorem dX0_take_27 : decode cX0_take 27 = .ok (.aload_n 0, 1) := by decide +kernel
theorem dX0_take_28 : decode cX0_take 28 = .ok (.getfield 15, 3) := by decide +kernel
theorem dX0_take_31 : decode cX0_take 31 = .ok (.iload_n 3, 1) := by decide +kernel
theorem dX0_take_32 : decode cX0_take 32 = .ok (.aload_n 1, 1) := by decide +kernel
theorem dX0_take_33 : decode cX0_take 33 = .ok (.iload 4, 2) := by decide +kernel
theorem dX0_take_35 : decode cX0_take 35 = .ok (.iconst 1, 1) := by decide +kernel
theorem dX0_take_36 : decode cX0_take 36 = .ok (.iadd, 1) := by decide +kernel
theorem dX0_take_37 : decode cX0_take 37 = .ok (.iaload, 1) := by decide +kernel
theorem dX0_take_38 : decode cX0_take 38 = .ok (.iastore, 1) := by decide +kernel
theorem dX0_take_39 : decode cX0_take 39 = .ok (.aload_n 0, 1) := by decide +kernel
theorem dX0_take_40 : decode cX0_take 40 = .ok (.getfield 18, 3) := by decide +kernel
theorem dX0_take_43 : decode cX0_take 43 = .ok (.iload_n 3, 1) := by decide +kernel
theorem dX0_take_44 : decode cX0_take 44 = .ok (.aload_n 1, 1) := by decide +kernel
theorem dX0_take_45 : decode cX0_take 45 = .ok (.iload 4, 2) := by decide +kernel
theorem dX0_take_47 : decode cX0_take 47 = .ok (.iconst 2, 1) := by decide +kernel
theorem dX0_take_48 : decode cX0_take 48 = .ok (.iadd, 1) := by decide +kernel
theorem dX0_take_49 : decode cX0_take 49 = .ok (.iaload, 1) := by decide +kernel
theorem dX0_take_50 : decode cX0_take 50 = .ok (.iastore, 1) := by decide +kernel
theorem dX0_take_51 : decode cX0_take 51 = .ok (.aload_n 0, 1) := by decide +kernel
theorem dX0_take_52 : decode cX0_take 52 = .ok (.getfield 21, 3) := by decide +kernel
theorem dX0_take_55 : decode cX0_take 55 = .ok (.iload_n 3, 1) := by decide +kernel
theorem dX0_take_56 : decode cX0_take 56 = .ok (.aload_n 0, 1) := by decide +kernel
theorem dX0_take_57 : decode cX0_take 57 = .ok (.iload_n 3, 1) := by decide +kernel
theorem dX0_take_58 : decode cX0_take 58 = .ok (.invokevirtual 39, 3) := by decide +kernel
theorem dX0_take_61 : decode cX0_take 61 = .ok (.ifCond .eq 12, 3) := by decide +kernel
theorem dX0_take_64 : decode cX0_take 64 = .ok (.aload_n 1, 1) := by decide +kernel
theorem dX0_take_65 : decode cX0_take 65 = .ok (.iload 4, 2) := by decide +kernel
theorem dX0_take_67 : decode cX0_take 67 = .ok (.iconst 3, 1) := by decide +kernel
theorem dX0_take_68 : decode cX0_take 68 = .ok (.iadd, 1) := by decide +kernel
theorem dX0_take_69 : decode cX0_take 69 = .ok (.iaload, 1) := by decide +kernel
theorem dX0_take_70 : decode cX0_take 70 = .ok (.goto 4, 3) := by decide +kernel
theorem dX0_take_73 : decode cX0_take 73 = .ok (.iconst 0, 1) := by decide +kernel
theorem dX0_take_74 : decode cX0_take 74 = .ok (.iastore, 1) := by decide +kernel
theorem dX0_take_75 : decode cX0_take 75 = .ok (.iinc 3 1, 3) := by decide +kernel
theorem dX0_take_78 : decode cX0_take 78 = .ok (.goto (-76), 3) := by decide +kernel
theorem dX0_take_81 : decode cX0_take 81 = .ok (.return_, 1) := by decide +kernel
theorem dX0_weigh_0 : decode cX0_weigh 0 = .ok (.aload_n 0, 1) := by decide +kernel
theorem dX0_weigh_1 : decode cX0_weigh 1 = .ok (.invokevirtual 42, 3) := by decide +kernel
theorem dX0_weigh_4 : decode cX0_weigh 4 = .ok (.istore_n 2, 1) := by decide +kernel
theorem dX0_weigh_5 : decode cX0_weigh 5 = .ok (.iconst 0, 1) := by decide +kernel
theorem dX0_weigh_6 : decode cX0_weigh 6 = .ok (.istore_n 3, 1) := by decide +kernel
theorem dX0_weigh_7 : decode cX0_weigh 7 = .ok (.iconst 1, 1) := by decide +kernel
theorem dX0_weigh_8 : decode cX0_weigh 8 = .ok (.istore 4, 2) := by decide +kernel
theorem dX0_weigh_10 : decode cX0_weigh 10 = .ok (.iload 4, 2) := by decide +kernel
theorem dX0_weigh_12 : decode cX0_weigh 12 = .ok (.aload_n 0, 1) := by decide +kernel
theorem dX0_weigh_13 : decode cX0_weigh 13 = .ok (.getfield 27, 3) := by decide +kernel
theorem dX0_weigh_16 : decode cX0_weigh 16 = .ok (.if_icmp .ge 26, 3) := by decide +kernel
theorem dX0_weigh_19 : decode cX0_weigh 19 = .ok (.iload_n 3, 1) := by decide +kernel
theorem dX0_weigh_20 : decode cX0_weigh 20 = .ok (.aload_n 1, 1) := by decide +kernel
theorem dX0_weigh_21 : decode cX0_weigh 21 = .ok (.iload 4, 2) := by decide +kernel
theorem dX0_weigh_23 : decode cX0_weigh 23 = .ok (.iaload, 1) := by decide +kernel
theorem dX0_weigh_24 : decode cX0_weigh 24 = .ok (.iload_n 2, 1) := by decide +kernel
theorem dX0_weigh_25 : decode cX0_weigh 25 = .ok (.aload_n 0, 1) := by decide +kernel
theorem dX0_weigh_26 : decode cX0_weigh 26 = .ok (.getfield 9, 3) := by decide +kernel
theorem dX0_weigh_29 : decode cX0_weigh 29 = .ok (.iload 4, 2) := by decide +kernel
theorem dX0_weigh_31 : decode cX0_weigh 31 = .ok (.iaload, 1) := by decide +kernel
theorem dX0_weigh_32 : decode cX0_weigh 32 = .ok (.isub, 1) := by decide +kernel
theorem dX0_weigh_33 : decode cX0_weigh 33 = .ok (.imul, 1) := by decide +kernel
theorem dX0_weigh_34 : decode cX0_weigh 34 = .ok (.iadd, 1) := by decide +kernel
theorem dX0_weigh_35 : decode cX0_weigh 35 = .ok (.istore_n 3, 1) := by decide +kernel
theorem dX0_weigh_36 : decode cX0_weigh 36 = .ok (.iinc 4 1, 3) := by decide +kernel
theorem dX0_weigh_39 : decode cX0_weigh 39 = .ok (.goto (-29), 3) := by decide +kernel
theorem dX0_weigh_42 : decode cX0_weigh 42 = .ok (.iconst 0, 1) := by decide +kernel
theorem dX0_weigh_43 : decode cX0_weigh 43 = .ok (.istore 4, 2) := by decide +kernel
theorem dX0_weigh_45 : decode cX0_weigh 45 = .ok (.iload 4, 2) := by decide +kernel
theorem dX0_weigh_47 : decode cX0_weigh 47 = .ok (.aload_n 0, 1) := by decide +kernel
theorem dX0_weigh_48 : decode cX0_weigh 48 = .ok (.getfield 27, 3) := by decide +kernel
theorem dX0_weigh_51 : decode cX0_weigh 51 = .ok (.if_icmp .gt 74, 3) := by decide +kernel
theorem dX0_weigh_54 : decode cX0_weigh 54 = .ok (.iconst 0, 1) := by decide +kernel
theorem dX0_weigh_55 : decode cX0_weigh 55 = .ok (.istore 5, 2) := by decide +kernel
theorem dX0_weigh_57 : decode cX0_weigh 57 = .ok (.iconst 1, 1) := by decide +kernel
theorem dX0_weigh_58 : decode cX0_weigh 58 = .ok (.istore 6, 2) := by decide +kernel
theorem dX0_weigh_60 : decode cX0_weigh 60 = .ok (.iload 6, 2) := by decide +kernel
theorem dX0_weigh_62 : decode cX0_weigh 62 = .ok (.iload 4, 2) := by decide +kernel
theorem dX0_weigh_64 : decode cX0_weigh 64 = .ok (.if_icmp .ge 34, 3) := by decide +kernel
theorem dX0_weigh_67 : decode cX0_weigh 67 = .ok (.iload 5, 2) := by decide +kernel
theorem dX0_weigh_69 : decode cX0_weigh 69 = .ok (.aload_n 1, 1) := by decide +kernel
theorem dX0_weigh_70 : decode cX0_weigh 70 = .ok (.iload 6, 2) := by decide +kernel
theorem dX0_weigh_72 : decode cX0_weigh 72 = .ok (.iaload, 1) := by decide +kernel
theorem dX0_weigh_73 : decode cX0_weigh 73 = .ok (.aload_n 0, 1) := by decide +kernel
theorem dX0_weigh_74 : decode cX0_weigh 74 = .ok (.getfield 9, 3) := by decide +kernel
theorem dX0_weigh_77 : decode cX0_weigh 77 = .ok (.iload 4, 2) := by decide +kernel
theorem dX0_weigh_79 : decode cX0_weigh 79 = .ok (.iaload, 1) := by decide +kernel
theorem dX0_weigh_80 : decode cX0_weigh 80 = .ok (.aload_n 0, 1) := by decide +kernel
theorem dX0_weigh_81 : decode cX0_weigh 81 = .ok (.getfield 9, 3) := by decide +kernel
theorem dX0_weigh_84 : decode cX0_weigh 84 = .ok (.iload 6, 2) := by decide +kernel
theorem dX0_weigh_86 : decode cX0_weigh 86 = .ok (.iaload, 1) := by decide +kernel
theorem dX0_weigh_87 : decode cX0_weigh 87 = .ok (.isub, 1) := by decide +kernel
theorem dX0_weigh_88 : decode cX0_weigh 88 = .ok (.imul, 1) := by decide +kernel
theorem dX0_weigh_89 : decode cX0_weigh 89 = .ok (.iadd, 1) := by decide +kernel
theorem dX0_weigh_90 : decode cX0_weigh 90 = .ok (.istore 5, 2) := by decide +kernel
theorem dX0_weigh_92 : decode cX0_weigh 92 = .ok (.iinc 6 1, 3) := by decide +kernel
theorem dX0_weigh_95 : decode cX0_weigh 95 = .ok (.goto (-35), 3) := by decide +kernel
theorem dX0_weigh_98 : decode cX0_weigh 98 = .ok (.aload_n 0, 1) := by decide +kernel
theorem dX0_weigh_99 : decode cX0_weigh 99 = .ok (.getfield 24, 3) := by decide +kernel
theorem dX0_weigh_102 : decode cX0_weigh 102 = .ok (.iload 4, 2) := by decide +kernel
theorem dX0_weigh_104 : decode cX0_weigh 104 = .ok (.aload_n 0, 1) := by decide +kernel
theorem dX0_weigh_105 : decode cX0_weigh 105 = .ok (.getfield 9, 3) := by decide +kernel
theorem dX0_weigh_108 : decode cX0_weigh 108 = .ok (.iload 4, 2) := by decide +kernel
theorem dX0_weigh_110 : decode cX0_weigh 110 = .ok (.iaload, 1) := by decide +kernel
theorem dX0_weigh_111 : decode cX0_weigh 111 = .ok (.iload_n 3, 1) := by decide +kernel
theorem dX0_weigh_112 : decode cX0_weigh 112 = .ok (.imul, 1) := by decide +kernel
theorem dX0_weigh_113 : decode cX0_weigh 113 = .ok (.iload_n 2, 1) := by decide +kernel
theorem dX0_weigh_114 : decode cX0_weigh 114 = .ok (.iload 5, 2) := by decide +kernel
theorem dX0_weigh_116 : decode cX0_weigh 116 = .ok (.imul, 1) := by decide +kernel
theorem dX0_weigh_117 : decode cX0_weigh 117 = .ok (.isub, 1) := by decide +kernel
theorem dX0_weigh_118 : decode cX0_weigh 118 = .ok (.iastore, 1) := by decide +kernel
theorem dX0_weigh_119 : decode cX0_weigh 119 = .ok (.iinc 4 1, 3) := by decide +kernel
theorem dX0_weigh_122 : decode cX0_weigh 122 = .ok (.goto (-77), 3) := by decide +kernel
theorem dX0_weigh_125 : decode cX0_weigh 125 = .ok (.return_, 1) := by decide +kernel
theorem dX0_rise_0 : decode cX0_rise 0 = .ok (.aload_n 0, 1) := by decide +kernel
theorem dX0_rise_1 : decode cX0_rise 1 = .ok (.getfield 9, 3) := by decide +kernel
theorem dX0_rise_4 : decode cX0_rise 4 = .ok (.iload 5, 2) := by decide +kernel
theorem dX0_rise_6 : decode cX0_rise 6 = .ok (.iaload, 1) := by decide +kernel
theorem dX0_rise_7 : decode cX0_rise 7 = .ok (.aload_n 0, 1) := by decide +kernel
theorem dX0_rise_8 : decode cX0_rise 8 = .ok (.getfield 9, 3) := by decide +kernel
theorem dX0_rise_11 : decode cX0_rise 11 = .ok (.iload 4, 2) := by decide +kernel
theorem dX0_rise_13 : decode cX0_rise 13 = .ok (.iaload, 1) := by decide +kernel
theorem dX0_rise_14 : decode cX0_rise 14 = .ok (.isub, 1) := by decide +kernel
theorem dX0_rise_15 : decode cX0_rise 15 = .ok (.aload_n 2, 1) := by decide +kernel
theorem dX0_rise_16 : decode cX0_rise 16 = .ok (.iload_n 3, 1) := by decide +kernel
theorem dX0_rise_17 : decode cX0_rise 17 = .ok (.iaload, 1) := by decide +kernel
theorem dX0_rise_18 : decode cX0_rise 18 = .ok (.imul, 1) := by decide +kernel
theorem dX0_rise_19 : decode cX0_rise 19 = .ok (.aload_n 0, 1) := by decide +kernel
theorem dX0_rise_20 : decode cX0_rise 20 = .ok (.getfield 9, 3) := by decide +kernel
theorem dX0_rise_23 : decode cX0_rise 23 = .ok (.iload 4, 2) := by decide +kernel
theorem dX0_rise_25 : decode cX0_rise 25 = .ok (.iaload, 1) := by decide +kernel
theorem dX0_rise_26 : decode cX0_rise 26 = .ok (.aload_n 0, 1) := by decide +kernel
theorem dX0_rise_27 : decode cX0_rise 27 = .ok (.getfield 9, 3) := by decide +kernel
theorem dX0_rise_30 : decode cX0_rise 30 = .ok (.iload_n 3, 1) := by decide +kernel
theorem dX0_rise_31 : decode cX0_rise 31 = .ok (.iaload, 1) := by decide +kernel
theorem dX0_rise_32 : decode cX0_rise 32 = .ok (.isub, 1) := by decide +kernel
theorem dX0_rise_33 : decode cX0_rise 33 = .ok (.aload_n 2, 1) := by decide +kernel
theorem dX0_rise_34 : decode cX0_rise 34 = .ok (.iload 5, 2) := by decide +kernel
theorem dX0_rise_36 : decode cX0_rise 36 = .ok (.iaload, 1) := by decide +kernel
theorem dX0_rise_37 : decode cX0_rise 37 = .ok (.imul, 1) := by decide +kernel
theorem dX0_rise_38 : decode cX0_rise 38 = .ok (.iadd, 1) := by decide +kernel
theorem dX0_rise_39 : decode cX0_rise 39 = .ok (.i2l, 1) := by decide +kernel
theorem dX0_rise_40 : decode cX0_rise 40 = .ok (.lstore 6, 2) := by decide +kernel
theorem dX0_rise_42 : decode cX0_rise 42 = .ok (.aload_n 0, 1) := by decide +kernel
theorem dX0_rise_43 : decode cX0_rise 43 = .ok (.getfield 9, 3) := by decide +kernel
theorem dX0_rise_46 : decode cX0_rise 46 = .ok (.iload 5, 2) := by decide +kernel
theorem dX0_rise_48 : decode cX0_rise 48 = .ok (.iaload, 1) := by decide +kernel
theorem dX0_rise_49 : decode cX0_rise 49 = .ok (.aload_n 0, 1) := by decide +kernel
theorem dX0_rise_50 : decode cX0_rise 50 = .ok (.getfield 9, 3) := by decide +kernel
theorem dX0_rise_53 : decode cX0_rise 53 = .ok (.iload_n 3, 1) := by decide +kernel
theorem dX0_rise_54 : decode cX0_rise 54 = .ok (.iaload, 1) := by decide +kernel
theorem dX0_rise_55 : decode cX0_rise 55 = .ok (.isub, 1) := by decide +kernel
theorem dX0_rise_56 : decode cX0_rise 56 = .ok (.aload_n 1, 1) := by decide +kernel
theorem dX0_rise_57 : decode cX0_rise 57 = .ok (.iload 4, 2) := by decide +kernel
theorem dX0_rise_59 : decode cX0_rise 59 = .ok (.iaload, 1) := by decide +kernel
theorem dX0_rise_60 : decode cX0_rise 60 = .ok (.imul, 1) := by decide +kernel
theorem dX0_rise_61 : decode cX0_rise 61 = .ok (.i2l, 1) := by decide +kernel
theorem dX0_rise_62 : decode cX0_rise 62 = .ok (.lload 6, 2) := by decide +kernel
theorem dX0_rise_64 : decode cX0_rise 64 = .ok (.lsub, 1) := by decide +kernel
theorem dX0_rise_65 : decode cX0_rise 65 = .ok (.lreturn, 1) := by decide +kernel
theorem dX0_bend_0 : decode cX0_bend 0 = .ok (.aload_n 0, 1) := by decide +kernel
theorem dX0_bend_1 : decode cX0_bend 1 = .ok (.aload_n 0, 1) := by decide +kernel
theorem dX0_bend_2 : decode cX0_bend 2 = .ok (.getfield 24, 3) := by decide +kernel
theorem dX0_bend_5 : decode cX0_bend 5 = .ok (.aload_n 0, 1) := by decide +kernel
theorem dX0_bend_6 : decode cX0_bend 6 = .ok (.getfield 24, 3) := by decide +kernel
theorem dX0_bend_9 : decode cX0_bend 9 = .ok (.iload_n 1, 1) := by decide +kernel
theorem dX0_bend_10 : decode cX0_bend 10 = .ok (.iload_n 2, 1) := by decide +kernel
theorem dX0_bend_11 : decode cX0_bend 11 = .ok (.iload_n 3, 1) := by decide +kernel
theorem dX0_bend_12 : decode cX0_bend 12 = .ok (.invokevirtual 46, 3) := by decide +kernel
theorem dX0_bend_15 : decode cX0_bend 15 = .ok (.lreturn, 1) := by decide +kernel
theorem dX1_init_0 : decode cX1_init 0 = .ok (.aload_n 0, 1) := by decide +kernel
theorem dX1_init_1 : decode cX1_init 1 = .ok (.invokespecial 3, 3) := by decide +kernel
theorem dX1_init_4 : decode cX1_init 4 = .ok (.aload_n 0, 1) := by decide +kernel
theorem dX1_init_5 : decode cX1_init 5 = .ok (.iconst 4, 1) := by decide +kernel
theorem dX1_init_6 : decode cX1_init 6 = .ok (.newarray .int, 2) := by decide +kernel
theorem dX1_init_8 : decode cX1_init 8 = .ok (.putfield 9, 3) := by decide +kernel
theorem dX1_init_11 : decode cX1_init 11 = .ok (.aload_n 0, 1) := by decide +kernel
theorem dX1_init_12 : decode cX1_init 12 = .ok (.aload_n 1, 1) := by decide +kernel
theorem dX1_init_13 : decode cX1_init 13 = .ok (.putfield 15, 3) := by decide +kernel
theorem dX1_init_16 : decode cX1_init 16 = .ok (.return_, 1) := by decide +kernel
theorem dX1_find_0 : decode cX1_find 0 = .ok (.aload_n 0, 1) := by decide +kernel
theorem dX1_find_1 : decode cX1_find 1 = .ok (.iconst 0, 1) := by decide +kernel
theorem dX1_find_2 : decode cX1_find 2 = .ok (.putfield 19, 3) := by decide +kernel
theorem dX1_find_5 : decode cX1_find 5 = .ok (.aload_n 0, 1) := by decide +kernel
theorem dX1_find_6 : decode cX1_find 6 = .ok (.iconst 3, 1) := by decide +kernel
theorem dX1_find_7 : decode cX1_find 7 = .ok (.invokevirtual 23, 3) := by decide +kernel
theorem dX1_find_10 : decode cX1_find 10 = .ok (.ifCond .ne 9, 3) := by decide +kernel
theorem dX1_find_13 : decode cX1_find 13 = .ok (.aload_n 0, 1) := by decide +kernel
theorem dX1_find_14 : decode cX1_find 14 = .ok (.iconst 4, 1) := by decide +kernel
theorem dX1_find_15 : decode cX1_find 15 = .ok (.invokevirtual 23, 3) := by decide +kernel
theorem dX1_find_18 : decode cX1_find 18 = .ok (.pop, 1) := by decide +kernel
theorem dX1_find_19 : decode cX1_find 19 = .ok (.return_, 1) := by decide +kernel
theorem dX1_findFirst_0 : decode cX1_findFirst 0 = .ok (.iconst 0, 1) := by decide +kernel
theorem dX1_findFirst_1 : decode cX1_findFirst 1 = .ok (.istore_n 2, 1) := by decide +kernel
theorem dX1_findFirst_2 : decode cX1_findFirst 2 = .ok (.iload_n 2, 1) := by decide +kernel
theorem dX1_findFirst_3 : decode cX1_findFirst 3 = .ok (.iconst 2, 1) := by decide +kernel
theorem dX1_findFirst_4 : decode cX1_findFirst 4 = .ok (.aload_n 0, 1) := by decide +kernel
theorem dX1_findFirst_5 : decode cX1_findFirst 5 = .ok (.getfield 15, 3) := by decide +kernel
theorem dX1_findFirst_8 : decode cX1_findFirst 8 = .ok (.getfield 27, 3) := by decide +kernel
theorem dX1_findFirst_11 : decode cX1_findFirst 11 = .ok (.imul, 1) := by decide +kernel
theorem dX1_findFirst_12 : decode cX1_findFirst 12 = .ok (.iconst 1, 1) := by decide +kernel
theorem dX1_findFirst_13 : decode cX1_findFirst 13 = .ok (.iadd, 1) := by decide +kernel
theorem dX1_findFirst_14 : decode cX1_findFirst 14 = .ok (.if_icmp .gt 100, 3) := by decide +kernel
theorem dX1_findFirst_17 : decode cX1_findFirst 17 = .ok (.iload_n 2, 1) := by decide +kernel
theorem dX1_findFirst_18 : decode cX1_findFirst 18 = .ok (.iconst 2, 1) := by decide +kernel
theorem dX1_findFirst_19 : decode cX1_findFirst 19 = .ok (.idiv, 1) := by decide +kernel
theorem dX1_findFirst_20 : decode cX1_findFirst 20 = .ok (.istore_n 3, 1) := by decide +kernel
theorem dX1_findFirst_21 : decode cX1_findFirst 21 = .ok (.iload_n 3, 1) := by decide +kernel
theorem dX1_findFirst_22 : decode cX1_findFirst 22 = .ok (.iconst 1, 1) := by decide +kernel
theorem dX1_findFirst_23 : decode cX1_findFirst 23 = .ok (.iadd, 1) := by decide +kernel
theorem dX1_findFirst_24 : decode cX1_findFirst 24 = .ok (.istore 4, 2) := by decide +kernel
theorem dX1_findFirst_26 : decode cX1_findFirst 26 = .ok (.iload 4, 2) := by decide +kernel
theorem dX1_findFirst_28 : decode cX1_findFirst 28 = .ok (.aload_n 0, 1) := by decide +kernel
theorem dX1_findFirst_29 : decode cX1_findFirst 29 = .ok (.getfield 15, 3) := by decide +kernel
theorem dX1_findFirst_32 : decode cX1_findFirst 32 = .ok (.getfield 27, 3) := by decide +kernel
theorem dX1_findFirst_35 : decode cX1_findFirst 35 = .ok (.if_icmp .ge 73, 3) := by decide +kernel
theorem dX1_findFirst_38 : decode cX1_findFirst 38 = .ok (.iload 4, 2) := by decide +kernel
theorem dX1_findFirst_40 : decode cX1_findFirst 40 = .ok (.iconst 1, 1) := by decide +kernel
theorem dX1_findFirst_41 : decode cX1_findFirst 41 = .ok (.iadd, 1) := by decide +kernel
theorem dX1_findFirst_42 : decode cX1_findFirst 42 = .ok (.istore 5, 2) := by decide +kernel
theorem dX1_findFirst_44 : decode cX1_findFirst 44 = .ok (.iload 5, 2) := by decide +kernel
theorem dX1_findFirst_46 : decode cX1_findFirst 46 = .ok (.aload_n 0, 1) := by decide +kernel
theorem dX1_findFirst_47 : decode cX1_findFirst 47 = .ok (.getfield 15, 3) := by decide +kernel
theorem dX1_findFirst_50 : decode cX1_findFirst 50 = .ok (.getfield 27, 3) := by decide +kernel
theorem dX1_findFirst_53 : decode cX1_findFirst 53 = .ok (.if_icmp .gt 49, 3) := by decide +kernel
theorem dX1_findFirst_56 : decode cX1_findFirst 56 = .ok (.iload_n 1, 1) := by decide +kernel
theorem dX1_findFirst_57 : decode cX1_findFirst 57 = .ok (.iconst 3, 1) := by decide +kernel
theorem dX1_findFirst_58 : decode cX1_findFirst 58 = .ok (.if_icmp .ne 21, 3) := by decide +kernel
theorem dX1_findFirst_61 : decode cX1_findFirst 61 = .ok (.aload_n 0, 1) := by decide +kernel
theorem dX1_findFirst_62 : decode cX1_findFirst 62 = .ok (.iload_n 2, 1) := by decide +kernel
theorem dX1_findFirst_63 : decode cX1_findFirst 63 = .ok (.iconst 2, 1) := by decide +kernel
theorem dX1_findFirst_64 : decode cX1_findFirst 64 = .ok (.irem, 1) := by decide +kernel
theorem dX1_findFirst_65 : decode cX1_findFirst 65 = .ok (.iload_n 3, 1) := by decide +kernel
theorem dX1_findFirst_66 : decode cX1_findFirst 66 = .ok (.iload 4, 2) := by decide +kernel
theorem dX1_findFirst_68 : decode cX1_findFirst 68 = .ok (.iload 5, 2) := by decide +kernel
theorem dX1_findFirst_70 : decode cX1_findFirst 70 = .ok (.invokevirtual 32, 3) := by decide +kernel
theorem dX1_findFirst_73 : decode cX1_findFirst 73 = .ok (.ifCond .eq 23, 3) := by decide +kernel
theorem dX1_findFirst_76 : decode cX1_findFirst 76 = .ok (.goto 18, 3) := by decide +kernel
theorem dX1_findFirst_79 : decode cX1_findFirst 79 = .ok (.aload_n 0, 1) := by decide +kernel
theorem dX1_findFirst_80 : decode cX1_findFirst 80 = .ok (.iload_n 2, 1) := by decide +kernel
theorem dX1_findFirst_81 : decode cX1_findFirst 81 = .ok (.iconst 2, 1) := by decide +kernel
theorem dX1_findFirst_82 : decode cX1_findFirst 82 = .ok (.irem, 1) := by decide +kernel
theorem dX1_findFirst_83 : decode cX1_findFirst 83 = .ok (.iload_n 3, 1) := by decide +kernel
theorem dX1_findFirst_84 : decode cX1_findFirst 84 = .ok (.iload 4, 2) := by decide +kernel
theorem dX1_findFirst_86 : decode cX1_findFirst 86 = .ok (.iload 5, 2) := by decide +kernel
theorem dX1_findFirst_88 : decode cX1_findFirst 88 = .ok (.invokevirtual 36, 3) := by decide +kernel
theorem dX1_findFirst_91 : decode cX1_findFirst 91 = .ok (.ifCond .eq 5, 3) := by decide +kernel
theorem dX1_findFirst_94 : decode cX1_findFirst 94 = .ok (.iconst 1, 1) := by decide +kernel
theorem dX1_findFirst_95 : decode cX1_findFirst 95 = .ok (.ireturn, 1) := by decide +kernel
theorem dX1_findFirst_96 : decode cX1_findFirst 96 = .ok (.iinc 5 1, 3) := by decide +kernel
theorem dX1_findFirst_99 : decode cX1_findFirst 99 = .ok (.goto (-55), 3) := by decide +kernel
theorem dX1_findFirst_102 : decode cX1_findFirst 102 = .ok (.iinc 4 1, 3) := by decide +kernel
theorem dX1_findFirst_105 : decode cX1_findFirst 105 = .ok (.goto (-79), 3) := by decide +kernel
theorem dX1_findFirst_108 : decode cX1_findFirst 108 = .ok (.iinc 2 1, 3) := by decide +kernel
theorem dX1_findFirst_111 : decode cX1_findFirst 111 = .ok (.goto (-109), 3) := by decide +kernel
theorem dX1_findFirst_114 : decode cX1_findFirst 114 = .ok (.iconst 0, 1) := by decide +kernel
theorem dX1_findFirst_115 : decode cX1_findFirst 115 = .ok (.ireturn, 1) := by decide +kernel
theorem dX1_barsThree_0 : decode cX1_barsThree 0 = .ok (.aload_n 0, 1) := by decide +kernel
theorem dX1_barsThree_1 : decode cX1_barsThree 1 = .ok (.getfield 15, 3) := by decide +kernel
theorem dX1_barsThree_4 : decode cX1_barsThree 4 = .ok (.iload_n 2, 1) := by decide +kernel
theorem dX1_barsThree_5 : decode cX1_barsThree 5 = .ok (.iload_n 3, 1) := by decide +kernel
theorem dX1_barsThree_6 : decode cX1_barsThree 6 = .ok (.iload 4, 2) := by decide +kernel
theorem dX1_barsThree_8 : decode cX1_barsThree 8 = .ok (.invokevirtual 39, 3) := by decide +kernel
theorem dX1_barsThree_11 : decode cX1_barsThree 11 = .ok (.lconst 0, 1) := by decide +kernel
theorem dX1_barsThree_12 : decode cX1_barsThree 12 = .ok (.lcmp, 1) := by decide +kernel
theorem dX1_barsThree_13 : decode cX1_barsThree 13 = .ok (.ifCond .ne 15, 3) := by decide +kernel
theorem dX1_barsThree_16 : decode cX1_barsThree 16 = .ok (.aload_n 0, 1) := by decide +kernel
theorem dX1_barsThree_17 : decode cX1_barsThree 17 = .ok (.iload_n 1, 1) := by decide +kernel
theorem dX1_barsThree_18 : decode cX1_barsThree 18 = .ok (.iload_n 2, 1) := by decide +kernel
theorem dX1_barsThree_19 : decode cX1_barsThree 19 = .ok (.iload_n 3, 1) := by decide +kernel
theorem dX1_barsThree_20 : decode cX1_barsThree 20 = .ok (.iload 4, 2) := by decide +kernel
theorem dX1_barsThree_22 : decode cX1_barsThree 22 = .ok (.invokevirtual 43, 3) := by decide +kernel
theorem dX1_barsThree_25 : decode cX1_barsThree 25 = .ok (.ifCond .ne 5, 3) := by decide +kernel
theorem dX1_barsThree_28 : decode cX1_barsThree 28 = .ok (.iconst 0, 1) := by decide +kernel
theorem dX1_barsThree_29 : decode cX1_barsThree 29 = .ok (.ireturn, 1) := by decide +kernel
theorem dX1_barsThree_30 : decode cX1_barsThree 30 = .ok (.aload_n 0, 1) := by decide +kernel
theorem dX1_barsThree_31 : decode cX1_barsThree 31 = .ok (.iload_n 1, 1) := by decide +kernel
theorem dX1_barsThree_32 : decode cX1_barsThree 32 = .ok (.iload_n 2, 1) := by decide +kernel
theorem dX1_barsThree_33 : decode cX1_barsThree 33 = .ok (.iload_n 3, 1) := by decide +kernel
theorem dX1_barsThree_34 : decode cX1_barsThree 34 = .ok (.iload 4, 2) := by decide +kernel
theorem dX1_barsThree_36 : decode cX1_barsThree 36 = .ok (.invokevirtual 46, 3) := by decide +kernel
theorem dX1_barsThree_39 : decode cX1_barsThree 39 = .ok (.aload_n 0, 1) := by decide +kernel
theorem dX1_barsThree_40 : decode cX1_barsThree 40 = .ok (.iconst 3, 1) := by decide +kernel
theorem dX1_barsThree_41 : decode cX1_barsThree 41 = .ok (.putfield 19, 3) := by decide +kernel
theorem dX1_barsThree_44 : decode cX1_barsThree 44 = .ok (.iconst 1, 1) := by decide +kernel
theorem dX1_barsThree_45 : decode cX1_barsThree 45 = .ok (.ireturn, 1) := by decide +kernel
theorem dX1_barsFour_0 : decode cX1_barsFour 0 = .ok (.iload 4, 2) := by decide +kernel
theorem dX1_barsFour_2 : decode cX1_barsFour 2 = .ok (.iconst 1, 1) := by decide +kernel
theorem dX1_barsFour_3 : decode cX1_barsFour 3 = .ok (.iadd, 1) := by decide +kernel
theorem dX1_barsFour_4 : decode cX1_barsFour 4 = .ok (.istore 5, 2) := by decide +kernel
theorem dX1_barsFour_6 : decode cX1_barsFour 6 = .ok (.iload 5, 2) := by decide +kernel
theorem dX1_barsFour_8 : decode cX1_barsFour 8 = .ok (.aload_n 0, 1) := by decide +kernel
theorem dX1_barsFour_9 : decode cX1_barsFour 9 = .ok (.getfield 15, 3) := by decide +kernel
theorem dX1_barsFour_12 : decode cX1_barsFour 12 = .ok (.getfield 27, 3) := by decide +kernel
theorem dX1_barsFour_15 : decode cX1_barsFour 15 = .ok (.if_icmp .gt 53, 3) := by decide +kernel
theorem dX1_barsFour_18 : decode cX1_barsFour 18 = .ok (.aload_n 0, 1) := by decide +kernel
theorem dX1_barsFour_19 : decode cX1_barsFour 19 = .ok (.iload_n 1, 1) := by decide +kernel
theorem dX1_barsFour_20 : decode cX1_barsFour 20 = .ok (.iload_n 2, 1) := by decide +kernel
theorem dX1_barsFour_21 : decode cX1_barsFour 21 = .ok (.iload_n 3, 1) := by decide +kernel
theorem dX1_barsFour_22 : decode cX1_barsFour 22 = .ok (.iload 4, 2) := by decide +kernel
theorem dX1_barsFour_24 : decode cX1_barsFour 24 = .ok (.iload 5, 2) := by decide +kernel
theorem dX1_barsFour_26 : decode cX1_barsFour 26 = .ok (.invokevirtual 50, 3) := by decide +kernel
theorem dX1_barsFour_29 : decode cX1_barsFour 29 = .ok (.ifCond .eq 33, 3) := by decide +kernel
theorem dX1_barsFour_32 : decode cX1_barsFour 32 = .ok (.aload_n 0, 1) := by decide +kernel
theorem dX1_barsFour_33 : decode cX1_barsFour 33 = .ok (.iload_n 1, 1) := by decide +kernel
theorem dX1_barsFour_34 : decode cX1_barsFour 34 = .ok (.iload_n 2, 1) := by decide +kernel
theorem dX1_barsFour_35 : decode cX1_barsFour 35 = .ok (.iload_n 3, 1) := by decide +kernel
theorem dX1_barsFour_36 : decode cX1_barsFour 36 = .ok (.iload 4, 2) := by decide +kernel
theorem dX1_barsFour_38 : decode cX1_barsFour 38 = .ok (.invokevirtual 46, 3) := by decide +kernel
theorem dX1_barsFour_41 : decode cX1_barsFour 41 = .ok (.aload_n 0, 1) := by decide +kernel
theorem dX1_barsFour_42 : decode cX1_barsFour 42 = .ok (.getfield 9, 3) := by decide +kernel
theorem dX1_barsFour_45 : decode cX1_barsFour 45 = .ok (.iconst 3, 1) := by decide +kernel
theorem dX1_barsFour_46 : decode cX1_barsFour 46 = .ok (.iconst 2, 1) := by decide +kernel
theorem dX1_barsFour_47 : decode cX1_barsFour 47 = .ok (.iload 5, 2) := by decide +kernel
theorem dX1_barsFour_49 : decode cX1_barsFour 49 = .ok (.imul, 1) := by decide +kernel
theorem dX1_barsFour_50 : decode cX1_barsFour 50 = .ok (.iconst 1, 1) := by decide +kernel
theorem dX1_barsFour_51 : decode cX1_barsFour 51 = .ok (.iadd, 1) := by decide +kernel
theorem dX1_barsFour_52 : decode cX1_barsFour 52 = .ok (.iload_n 1, 1) := by decide +kernel
theorem dX1_barsFour_53 : decode cX1_barsFour 53 = .ok (.isub, 1) := by decide +kernel
theorem dX1_barsFour_54 : decode cX1_barsFour 54 = .ok (.iastore, 1) := by decide +kernel
theorem dX1_barsFour_55 : decode cX1_barsFour 55 = .ok (.aload_n 0, 1) := by decide +kernel
theorem dX1_barsFour_56 : decode cX1_barsFour 56 = .ok (.iconst 4, 1) := by decide +kernel
theorem dX1_barsFour_57 : decode cX1_barsFour 57 = .ok (.putfield 19, 3) := by decide +kernel
theorem dX1_barsFour_60 : decode cX1_barsFour 60 = .ok (.iconst 1, 1) := by decide +kernel
theorem dX1_barsFour_61 : decode cX1_barsFour 61 = .ok (.ireturn, 1) := by decide +kernel
theorem dX1_barsFour_62 : decode cX1_barsFour 62 = .ok (.iinc 5 1, 3) := by decide +kernel
theorem dX1_barsFour_65 : decode cX1_barsFour 65 = .ok (.goto (-59), 3) := by decide +kernel
theorem dX1_barsFour_68 : decode cX1_barsFour 68 = .ok (.iload_n 1, 1) := by decide +kernel
theorem dX1_barsFour_69 : decode cX1_barsFour 69 = .ok (.ifCond .ne 39, 3) := by decide +kernel
theorem dX1_barsFour_72 : decode cX1_barsFour 72 = .ok (.aload_n 0, 1) := by decide +kernel
theorem dX1_barsFour_73 : decode cX1_barsFour 73 = .ok (.iload_n 1, 1) := by decide +kernel
theorem dX1_barsFour_74 : decode cX1_barsFour 74 = .ok (.iload_n 2, 1) := by decide +kernel
theorem dX1_barsFour_75 : decode cX1_barsFour 75 = .ok (.iload_n 3, 1) := by decide +kernel
theorem dX1_barsFour_76 : decode cX1_barsFour 76 = .ok (.iload 4, 2) := by decide +kernel
theorem dX1_barsFour_78 : decode cX1_barsFour 78 = .ok (.invokevirtual 43, 3) := by decide +kernel
theorem dX1_barsFour_81 : decode cX1_barsFour 81 = .ok (.ifCond .eq 27, 3) := by decide +kernel
theorem dX1_barsFour_84 : decode cX1_barsFour 84 = .ok (.aload_n 0, 1) := by decide +kernel
theorem dX1_barsFour_85 : decode cX1_barsFour 85 = .ok (.iload_n 1, 1) := by decide +kernel
theorem dX1_barsFour_86 : decode cX1_barsFour 86 = .ok (.iload_n 2, 1) := by decide +kernel
theorem dX1_barsFour_87 : decode cX1_barsFour 87 = .ok (.iload_n 3, 1) := by decide +kernel
theorem dX1_barsFour_88 : decode cX1_barsFour 88 = .ok (.iload 4, 2) := by decide +kernel
theorem dX1_barsFour_90 : decode cX1_barsFour 90 = .ok (.invokevirtual 46, 3) := by decide +kernel
theorem dX1_barsFour_93 : decode cX1_barsFour 93 = .ok (.aload_n 0, 1) := by decide +kernel
theorem dX1_barsFour_94 : decode cX1_barsFour 94 = .ok (.getfield 9, 3) := by decide +kernel
theorem dX1_barsFour_97 : decode cX1_barsFour 97 = .ok (.iconst 3, 1) := by decide +kernel
theorem dX1_barsFour_98 : decode cX1_barsFour 98 = .ok (.bipush 14, 2) := by decide +kernel
theorem dX1_barsFour_100 : decode cX1_barsFour 100 = .ok (.iastore, 1) := by decide +kernel
theorem dX1_barsFour_101 : decode cX1_barsFour 101 = .ok (.aload_n 0, 1) := by decide +kernel
theorem dX1_barsFour_102 : decode cX1_barsFour 102 = .ok (.iconst 4, 1) := by decide +kernel
theorem dX1_barsFour_103 : decode cX1_barsFour 103 = .ok (.putfield 19, 3) := by decide +kernel
theorem dX1_barsFour_106 : decode cX1_barsFour 106 = .ok (.iconst 1, 1) := by decide +kernel
theorem dX1_barsFour_107 : decode cX1_barsFour 107 = .ok (.ireturn, 1) := by decide +kernel
theorem dX1_barsFour_108 : decode cX1_barsFour 108 = .ok (.iconst 0, 1) := by decide +kernel
theorem dX1_barsFour_109 : decode cX1_barsFour 109 = .ok (.ireturn, 1) := by decide +kernel
theorem dX1_keep_0 : decode cX1_keep 0 = .ok (.aload_n 0, 1) := by decide +kernel
theorem dX1_keep_1 : decode cX1_keep 1 = .ok (.getfield 9, 3) := by decide +kernel
theorem dX1_keep_4 : decode cX1_keep 4 = .ok (.iconst 0, 1) := by decide +kernel
theorem dX1_keep_5 : decode cX1_keep 5 = .ok (.iconst 2, 1) := by decide +kernel
theorem dX1_keep_6 : decode cX1_keep 6 = .ok (.iload_n 2, 1) := by decide +kernel
theorem dX1_keep_7 : decode cX1_keep 7 = .ok (.imul, 1) := by decide +kernel
theorem dX1_keep_8 : decode cX1_keep 8 = .ok (.iload_n 1, 1) := by decide +kernel
theorem dX1_keep_9 : decode cX1_keep 9 = .ok (.iadd, 1) := by decide +kernel
theorem dX1_keep_10 : decode cX1_keep 10 = .ok (.iastore, 1) := by decide +kernel
theorem dX1_keep_11 : decode cX1_keep 11 = .ok (.aload_n 0, 1) := by decide +kernel
theorem dX1_keep_12 : decode cX1_keep 12 = .ok (.getfield 9, 3) := by decide +kernel
theorem dX1_keep_15 : decode cX1_keep 15 = .ok (.iconst 1, 1) := by decide +kernel
theorem dX1_keep_16 : decode cX1_keep 16 = .ok (.iconst 2, 1) := by decide +kernel
theorem dX1_keep_17 : decode cX1_keep 17 = .ok (.iload_n 3, 1) := by decide +kernel
theorem dX1_keep_18 : decode cX1_keep 18 = .ok (.imul, 1) := by decide +kernel
theorem dX1_keep_19 : decode cX1_keep 19 = .ok (.iconst 1, 1) := by decide +kernel
theorem dX1_keep_20 : decode cX1_keep 20 = .ok (.iadd, 1) := by decide +kernel
theorem dX1_keep_21 : decode cX1_keep 21 = .ok (.iload_n 1, 1) := by decide +kernel
theorem dX1_keep_22 : decode cX1_keep 22 = .ok (.isub, 1) := by decide +kernel
theorem dX1_keep_23 : decode cX1_keep 23 = .ok (.iastore, 1) := by decide +kernel
theorem dX1_keep_24 : decode cX1_keep 24 = .ok (.aload_n 0, 1) := by decide +kernel
theorem dX1_keep_25 : decode cX1_keep 25 = .ok (.getfield 9, 3) := by decide +kernel
theorem dX1_keep_28 : decode cX1_keep 28 = .ok (.iconst 2, 1) := by decide +kernel
theorem dX1_keep_29 : decode cX1_keep 29 = .ok (.iconst 2, 1) := by decide +kernel
theorem dX1_keep_30 : decode cX1_keep 30 = .ok (.iload 4, 2) := by decide +kernel
theorem dX1_keep_32 : decode cX1_keep 32 = .ok (.imul, 1) := by decide +kernel
theorem dX1_keep_33 : decode cX1_keep 33 = .ok (.iload_n 1, 1) := by decide +kernel
theorem dX1_keep_34 : decode cX1_keep 34 = .ok (.iadd, 1) := by decide +kernel
theorem dX1_keep_35 : decode cX1_keep 35 = .ok (.iastore, 1) := by decide +kernel
theorem dX1_keep_36 : decode cX1_keep 36 = .ok (.return_, 1) := by decide +kernel
theorem dX1_isBeyondChord_0 : decode cX1_isBeyondChord 0 = .ok (.iload_n 1, 1) := by decide +kernel
theorem dX1_isBeyondChord_1 : decode cX1_isBeyondChord 1 = .ok (.ifCond .ne 39, 3) := by decide +kernel
theorem dX1_isBeyondChord_4 : decode cX1_isBeyondChord 4 = .ok (.aload_n 0, 1) := by decide +kernel
theorem dX1_isBeyondChord_5 : decode cX1_isBeyondChord 5 = .ok (.getfield 15, 3) := by decide +kernel
theorem dX1_isBeyondChord_8 : decode cX1_isBeyondChord 8 = .ok (.aload_n 0, 1) := by decide +kernel
theorem dX1_isBeyondChord_9 : decode cX1_isBeyondChord 9 = .ok (.getfield 15, 3) := by decide +kernel
theorem dX1_isBeyondChord_12 : decode cX1_isBeyondChord 12 = .ok (.getfield 54, 3) := by decide +kernel
theorem dX1_isBeyondChord_15 : decode cX1_isBeyondChord 15 = .ok (.aload_n 0, 1) := by decide +kernel
theorem dX1_isBeyondChord_16 : decode cX1_isBeyondChord 16 = .ok (.getfield 15, 3) := by decide +kernel
theorem dX1_isBeyondChord_19 : decode cX1_isBeyondChord 19 = .ok (.getfield 57, 3) := by decide +kernel
theorem dX1_isBeyondChord_22 : decode cX1_isBeyondChord 22 = .ok (.iload_n 2, 1) := by decide +kernel
theorem dX1_isBeyondChord_23 : decode cX1_isBeyondChord 23 = .ok (.iload_n 3, 1) := by decide +kernel
theorem dX1_isBeyondChord_24 : decode cX1_isBeyondChord 24 = .ok (.iload 4, 2) := by decide +kernel
theorem dX1_isBeyondChord_26 : decode cX1_isBeyondChord 26 = .ok (.invokevirtual 60, 3) := by decide +kernel
theorem dX1_isBeyondChord_29 : decode cX1_isBeyondChord 29 = .ok (.lconst 0, 1) := by decide +kernel
theorem dX1_isBeyondChord_30 : decode cX1_isBeyondChord 30 = .ok (.lcmp, 1) := by decide +kernel
theorem dX1_isBeyondChord_31 : decode cX1_isBeyondChord 31 = .ok (.ifCond .ge 7, 3) := by decide +kernel
theorem dX1_isBeyondChord_34 : decode cX1_isBeyondChord 34 = .ok (.iconst 1, 1) := by decide +kernel
theorem dX1_isBeyondChord_35 : decode cX1_isBeyondChord 35 = .ok (.goto 4, 3) := by decide +kernel
theorem dX1_isBeyondChord_38 : decode cX1_isBeyondChord 38 = .ok (.iconst 0, 1) := by decide +kernel
theorem dX1_isBeyondChord_39 : decode cX1_isBeyondChord 39 = .ok (.ireturn, 1) := by decide +kernel
theorem dX1_isBeyondChord_40 : decode cX1_isBeyondChord 40 = .ok (.aload_n 0, 1) := by decide +kernel
theorem dX1_isBeyondChord_41 : decode cX1_isBeyondChord 41 = .ok (.getfield 15, 3) := by decide +kernel
theorem dX1_isBeyondChord_44 : decode cX1_isBeyondChord 44 = .ok (.aload_n 0, 1) := by decide +kernel
theorem dX1_isBeyondChord_45 : decode cX1_isBeyondChord 45 = .ok (.getfield 15, 3) := by decide +kernel
theorem dX1_isBeyondChord_48 : decode cX1_isBeyondChord 48 = .ok (.getfield 57, 3) := by decide +kernel
theorem dX1_isBeyondChord_51 : decode cX1_isBeyondChord 51 = .ok (.aload_n 0, 1) := by decide +kernel
theorem dX1_isBeyondChord_52 : decode cX1_isBeyondChord 52 = .ok (.getfield 15, 3) := by decide +kernel
theorem dX1_isBeyondChord_55 : decode cX1_isBeyondChord 55 = .ok (.getfield 54, 3) := by decide +kernel
theorem dX1_isBeyondChord_58 : decode cX1_isBeyondChord 58 = .ok (.iload_n 2, 1) := by decide +kernel
theorem dX1_isBeyondChord_59 : decode cX1_isBeyondChord 59 = .ok (.iload_n 3, 1) := by decide +kernel
theorem dX1_isBeyondChord_60 : decode cX1_isBeyondChord 60 = .ok (.iload 4, 2) := by decide +kernel
theorem dX1_isBeyondChord_62 : decode cX1_isBeyondChord 62 = .ok (.invokevirtual 60, 3) := by decide +kernel
theorem dX1_isBeyondChord_65 : decode cX1_isBeyondChord 65 = .ok (.lconst 0, 1) := by decide +kernel
theorem dX1_isBeyondChord_66 : decode cX1_isBeyondChord 66 = .ok (.lcmp, 1) := by decide +kernel
theorem dX1_isBeyondChord_67 : decode cX1_isBeyondChord 67 = .ok (.ifCond .le 7, 3) := by decide +kernel
theorem dX1_isBeyondChord_70 : decode cX1_isBeyondChord 70 = .ok (.iconst 1, 1) := by decide +kernel
theorem dX1_isBeyondChord_71 : decode cX1_isBeyondChord 71 = .ok (.goto 4, 3) := by decide +kernel
theorem dX1_isBeyondChord_74 : decode cX1_isBeyondChord 74 = .ok (.iconst 0, 1) := by decide +kernel
theorem dX1_isBeyondChord_75 : decode cX1_isBeyondChord 75 = .ok (.ireturn, 1) := by decide +kernel
theorem dX1_isCrossed_0 : decode cX1_isCrossed 0 = .ok (.iload_n 1, 1) := by decide +kernel
theorem dX1_isCrossed_1 : decode cX1_isCrossed 1 = .ok (.ifCond .ne 13, 3) := by decide +kernel
theorem dX1_isCrossed_4 : decode cX1_isCrossed 4 = .ok (.aload_n 0, 1) := by decide +kernel
theorem dX1_isCrossed_5 : decode cX1_isCrossed 5 = .ok (.getfield 15, 3) := by decide +kernel
theorem dX1_isCrossed_8 : decode cX1_isCrossed 8 = .ok (.getfield 57, 3) := by decide +kernel
theorem dX1_isCrossed_11 : decode cX1_isCrossed 11 = .ok (.goto 10, 3) := by decide +kernel
theorem dX1_isCrossed_14 : decode cX1_isCrossed 14 = .ok (.aload_n 0, 1) := by decide +kernel
theorem dX1_isCrossed_15 : decode cX1_isCrossed 15 = .ok (.getfield 15, 3) := by decide +kernel
theorem dX1_isCrossed_18 : decode cX1_isCrossed 18 = .ok (.getfield 54, 3) := by decide +kernel
theorem dX1_isCrossed_21 : decode cX1_isCrossed 21 = .ok (.astore 6, 2) := by decide +kernel
theorem dX1_isCrossed_23 : decode cX1_isCrossed 23 = .ok (.iload_n 1, 1) := by decide +kernel
theorem dX1_isCrossed_24 : decode cX1_isCrossed 24 = .ok (.ifCond .ne 13, 3) := by decide +kernel
theorem dX1_isCrossed_27 : decode cX1_isCrossed 27 = .ok (.aload_n 0, 1) := by decide +kernel
theorem dX1_isCrossed_28 : decode cX1_isCrossed 28 = .ok (.getfield 15, 3) := by decide +kernel
theorem dX1_isCrossed_31 : decode cX1_isCrossed 31 = .ok (.getfield 54, 3) := by decide +kernel
theorem dX1_isCrossed_34 : decode cX1_isCrossed 34 = .ok (.goto 10, 3) := by decide +kernel
theorem dX1_isCrossed_37 : decode cX1_isCrossed 37 = .ok (.aload_n 0, 1) := by decide +kernel
theorem dX1_isCrossed_38 : decode cX1_isCrossed 38 = .ok (.getfield 15, 3) := by decide +kernel
theorem dX1_isCrossed_41 : decode cX1_isCrossed 41 = .ok (.getfield 57, 3) := by decide +kernel
theorem dX1_isCrossed_44 : decode cX1_isCrossed 44 = .ok (.astore 7, 2) := by decide +kernel
theorem dX1_isCrossed_46 : decode cX1_isCrossed 46 = .ok (.aload_n 0, 1) := by decide +kernel
theorem dX1_isCrossed_47 : decode cX1_isCrossed 47 = .ok (.getfield 15, 3) := by decide +kernel
theorem dX1_isCrossed_50 : decode cX1_isCrossed 50 = .ok (.iload_n 3, 1) := by decide +kernel
theorem dX1_isCrossed_51 : decode cX1_isCrossed 51 = .ok (.iload 4, 2) := by decide +kernel
theorem dX1_isCrossed_53 : decode cX1_isCrossed 53 = .ok (.iload 5, 2) := by decide +kernel
theorem dX1_isCrossed_55 : decode cX1_isCrossed 55 = .ok (.invokevirtual 39, 3) := by decide +kernel
theorem dX1_isCrossed_58 : decode cX1_isCrossed 58 = .ok (.aload 6, 2) := by decide +kernel
theorem dX1_isCrossed_60 : decode cX1_isCrossed 60 = .ok (.iload_n 2, 1) := by decide +kernel
theorem dX1_isCrossed_61 : decode cX1_isCrossed 61 = .ok (.iaload, 1) := by decide +kernel
theorem dX1_isCrossed_62 : decode cX1_isCrossed 62 = .ok (.i2l, 1) := by decide +kernel
theorem dX1_isCrossed_63 : decode cX1_isCrossed 63 = .ok (.lmul, 1) := by decide +kernel
theorem dX1_isCrossed_64 : decode cX1_isCrossed 64 = .ok (.aload_n 0, 1) := by decide +kernel
theorem dX1_isCrossed_65 : decode cX1_isCrossed 65 = .ok (.getfield 15, 3) := by decide +kernel
theorem dX1_isCrossed_68 : decode cX1_isCrossed 68 = .ok (.iload_n 2, 1) := by decide +kernel
theorem dX1_isCrossed_69 : decode cX1_isCrossed 69 = .ok (.iload 4, 2) := by decide +kernel
theorem dX1_isCrossed_71 : decode cX1_isCrossed 71 = .ok (.iload 5, 2) := by decide +kernel
theorem dX1_isCrossed_73 : decode cX1_isCrossed 73 = .ok (.invokevirtual 39, 3) := by decide +kernel
theorem dX1_isCrossed_76 : decode cX1_isCrossed 76 = .ok (.aload 7, 2) := by decide +kernel
theorem dX1_isCrossed_78 : decode cX1_isCrossed 78 = .ok (.iload_n 3, 1) := by decide +kernel
theorem dX1_isCrossed_79 : decode cX1_isCrossed 79 = .ok (.iaload, 1) := by decide +kernel
theorem dX1_isCrossed_80 : decode cX1_isCrossed 80 = .ok (.i2l, 1) := by decide +kernel
theorem dX1_isCrossed_81 : decode cX1_isCrossed 81 = .ok (.lmul, 1) := by decide +kernel
theorem dX1_isCrossed_82 : decode cX1_isCrossed 82 = .ok (.lsub, 1) := by decide +kernel
theorem dX1_isCrossed_83 : decode cX1_isCrossed 83 = .ok (.aload_n 0, 1) := by decide +kernel
theorem dX1_isCrossed_84 : decode cX1_isCrossed 84 = .ok (.getfield 15, 3) := by decide +kernel
theorem dX1_isCrossed_87 : decode cX1_isCrossed 87 = .ok (.iload_n 2, 1) := by decide +kernel
theorem dX1_isCrossed_88 : decode cX1_isCrossed 88 = .ok (.iload_n 3, 1) := by decide +kernel
theorem dX1_isCrossed_89 : decode cX1_isCrossed 89 = .ok (.iload 5, 2) := by decide +kernel
theorem dX1_isCrossed_91 : decode cX1_isCrossed 91 = .ok (.invokevirtual 39, 3) := by decide +kernel
theorem dX1_isCrossed_94 : decode cX1_isCrossed 94 = .ok (.aload 6, 2) := by decide +kernel
theorem dX1_isCrossed_96 : decode cX1_isCrossed 96 = .ok (.iload 4, 2) := by decide +kernel
theorem dX1_isCrossed_98 : decode cX1_isCrossed 98 = .ok (.iaload, 1) := by decide +kernel
theorem dX1_isCrossed_99 : decode cX1_isCrossed 99 = .ok (.i2l, 1) := by decide +kernel
theorem dX1_isCrossed_100 : decode cX1_isCrossed 100 = .ok (.lmul, 1) := by decide +kernel
theorem dX1_isCrossed_101 : decode cX1_isCrossed 101 = .ok (.ladd, 1) := by decide +kernel
theorem dX1_isCrossed_102 : decode cX1_isCrossed 102 = .ok (.aload_n 0, 1) := by decide +kernel
theorem dX1_isCrossed_103 : decode cX1_isCrossed 103 = .ok (.getfield 15, 3) := by decide +kernel
theorem dX1_isCrossed_106 : decode cX1_isCrossed 106 = .ok (.iload_n 2, 1) := by decide +kernel
theorem dX1_isCrossed_107 : decode cX1_isCrossed 107 = .ok (.iload_n 3, 1) := by decide +kernel
theorem dX1_isCrossed_108 : decode cX1_isCrossed 108 = .ok (.iload 4, 2) := by decide +kernel
theorem dX1_isCrossed_110 : decode cX1_isCrossed 110 = .ok (.invokevirtual 39, 3) := by decide +kernel
theorem dX1_isCrossed_113 : decode cX1_isCrossed 113 = .ok (.aload 7, 2) := by decide +kernel
theorem dX1_isCrossed_115 : decode cX1_isCrossed 115 = .ok (.iload 5, 2) := by decide +kernel
theorem dX1_isCrossed_117 : decode cX1_isCrossed 117 = .ok (.iaload, 1) := by decide +kernel
theorem dX1_isCrossed_118 : decode cX1_isCrossed 118 = .ok (.i2l, 1) := by decide +kernel
theorem dX1_isCrossed_119 : decode cX1_isCrossed 119 = .ok (.lmul, 1) := by decide +kernel
theorem dX1_isCrossed_120 : decode cX1_isCrossed 120 = .ok (.lsub, 1) := by decide +kernel
theorem dX1_isCrossed_121 : decode cX1_isCrossed 121 = .ok (.lstore 8, 2) := by decide +kernel
theorem dX1_isCrossed_123 : decode cX1_isCrossed 123 = .ok (.iload_n 1, 1) := by decide +kernel
theorem dX1_isCrossed_124 : decode cX1_isCrossed 124 = .ok (.ifCond .ne 18, 3) := by decide +kernel
theorem dX1_isCrossed_127 : decode cX1_isCrossed 127 = .ok (.lload 8, 2) := by decide +kernel
theorem dX1_isCrossed_129 : decode cX1_isCrossed 129 = .ok (.lconst 0, 1) := by decide +kernel
theorem dX1_isCrossed_130 : decode cX1_isCrossed 130 = .ok (.lcmp, 1) := by decide +kernel
theorem dX1_isCrossed_131 : decode cX1_isCrossed 131 = .ok (.ifCond .le 7, 3) := by decide +kernel
theorem dX1_isCrossed_134 : decode cX1_isCrossed 134 = .ok (.iconst 1, 1) := by decide +kernel
theorem dX1_isCrossed_135 : decode cX1_isCrossed 135 = .ok (.goto 19, 3) := by decide +kernel
theorem dX1_isCrossed_138 : decode cX1_isCrossed 138 = .ok (.iconst 0, 1) := by decide +kernel
theorem dX1_isCrossed_139 : decode cX1_isCrossed 139 = .ok (.goto 15, 3) := by decide +kernel
theorem dX1_isCrossed_142 : decode cX1_isCrossed 142 = .ok (.lload 8, 2) := by decide +kernel
theorem dX1_isCrossed_144 : decode cX1_isCrossed 144 = .ok (.lconst 0, 1) := by decide +kernel
theorem dX1_isCrossed_145 : decode cX1_isCrossed 145 = .ok (.lcmp, 1) := by decide +kernel
theorem dX1_isCrossed_146 : decode cX1_isCrossed 146 = .ok (.ifCond .ge 7, 3) := by decide +kernel
theorem dX1_isCrossed_149 : decode cX1_isCrossed 149 = .ok (.iconst 1, 1) := by decide +kernel
theorem dX1_isCrossed_150 : decode cX1_isCrossed 150 = .ok (.goto 4, 3) := by decide +kernel
theorem dX1_isCrossed_153 : decode cX1_isCrossed 153 = .ok (.iconst 0, 1) := by decide +kernel
theorem dX1_isCrossed_154 : decode cX1_isCrossed 154 = .ok (.ireturn, 1) := by decide +kernel
theorem dX2_init_0 : decode cX2_init 0 = .ok (.aload_n 0, 1) := by decide +kernel
theorem dX2_init_1 : decode cX2_init 1 = .ok (.invokespecial 1, 3) := by decide +kernel
theorem dX2_init_4 : decode cX2_init 4 = .ok (.aload_n 0, 1) := by decide +kernel
theorem dX2_init_5 : decode cX2_init 5 = .ok (.lconst 0, 1) := by decide +kernel
theorem dX2_init_6 : decode cX2_init 6 = .ok (.putfield 7, 3) := by decide +kernel
theorem dX2_init_9 : decode cX2_init 9 = .ok (.aload_n 0, 1) := by decide +kernel
theorem dX2_init_10 : decode cX2_init 10 = .ok (.lconst 1, 1) := by decide +kernel
theorem dX2_init_11 : decode cX2_init 11 = .ok (.putfield 13, 3) := by decide +kernel
theorem dX2_init_14 : decode cX2_init 14 = .ok (.return_, 1) := by decide +kernel
theorem dX2_become_0 : decode cX2_become 0 = .ok (.lload_n 1, 1) := by decide +kernel
theorem dX2_become_1 : decode cX2_become 1 = .ok (.invokestatic 16, 3) := by decide +kernel
theorem dX2_become_4 : decode cX2_become 4 = .ok (.lload_n 3, 1) := by decide +kernel
theorem dX2_become_5 : decode cX2_become 5 = .ok (.invokestatic 22, 3) := by decide +kernel
theorem dX2_become_8 : decode cX2_become 8 = .ok (.lstore 5, 2) := by decide +kernel
theorem dX2_become_10 : decode cX2_become 10 = .ok (.lload 5, 2) := by decide +kernel
theorem dX2_become_12 : decode cX2_become 12 = .ok (.lconst 0, 1) := by decide +kernel
theorem dX2_become_13 : decode cX2_become 13 = .ok (.lcmp, 1) := by decide +kernel
theorem dX2_become_14 : decode cX2_become 14 = .ok (.ifCond .le 19, 3) := by decide +kernel
theorem dX2_become_17 : decode cX2_become 17 = .ok (.aload_n 0, 1) := by decide +kernel
theorem dX2_become_18 : decode cX2_become 18 = .ok (.lload_n 1, 1) := by decide +kernel
theorem dX2_become_19 : decode cX2_become 19 = .ok (.lload 5, 2) := by decide +kernel
theorem dX2_become_21 : decode cX2_become 21 = .ok (.ldiv, 1) := by decide +kernel
theorem dX2_become_22 : decode cX2_become 22 = .ok (.putfield 7, 3) := by decide +kernel
theorem dX2_become_25 : decode cX2_become 25 = .ok (.aload_n 0, 1) := by decide +kernel
theorem dX2_become_26 : decode cX2_become 26 = .ok (.lload_n 3, 1) := by decide +kernel
theorem dX2_become_27 : decode cX2_become 27 = .ok (.lload 5, 2) := by decide +kernel
theorem dX2_become_29 : decode cX2_become 29 = .ok (.ldiv, 1) := by decide +kernel
theorem dX2_become_30 : decode cX2_become 30 = .ok (.putfield 13, 3) := by decide +kernel
theorem dX2_become_33 : decode cX2_become 33 = .ok (.return_, 1) := by decide +kernel
theorem dX2_isAbove_0 : decode cX2_isAbove 0 = .ok (.aload_n 0, 1) := by decide +kernel
theorem dX2_isAbove_1 : decode cX2_isAbove 1 = .ok (.getfield 7, 3) := by decide +kernel
theorem dX2_isAbove_4 : decode cX2_isAbove 4 = .ok (.aload_n 1, 1) := by decide +kernel
theorem dX2_isAbove_5 : decode cX2_isAbove 5 = .ok (.getfield 13, 3) := by decide +kernel
theorem dX2_isAbove_8 : decode cX2_isAbove 8 = .ok (.lmul, 1) := by decide +kernel
theorem dX2_isAbove_9 : decode cX2_isAbove 9 = .ok (.aload_n 1, 1) := by decide +kernel
theorem dX2_isAbove_10 : decode cX2_isAbove 10 = .ok (.getfield 7, 3) := by decide +kernel
theorem dX2_isAbove_13 : decode cX2_isAbove 13 = .ok (.aload_n 0, 1) := by decide +kernel
theorem dX2_isAbove_14 : decode cX2_isAbove 14 = .ok (.getfield 13, 3) := by decide +kernel
theorem dX2_isAbove_17 : decode cX2_isAbove 17 = .ok (.lmul, 1) := by decide +kernel
theorem dX2_isAbove_18 : decode cX2_isAbove 18 = .ok (.lcmp, 1) := by decide +kernel
theorem dX2_isAbove_19 : decode cX2_isAbove 19 = .ok (.ifCond .le 7, 3) := by decide +kernel
theorem dX2_isAbove_22 : decode cX2_isAbove 22 = .ok (.iconst 1, 1) := by decide +kernel
theorem dX2_isAbove_23 : decode cX2_isAbove 23 = .ok (.goto 4, 3) := by decide +kernel
theorem dX2_isAbove_26 : decode cX2_isAbove 26 = .ok (.iconst 0, 1) := by decide +kernel
theorem dX2_isAbove_27 : decode cX2_isAbove 27 = .ok (.ireturn, 1) := by decide +kernel
theorem dX2_part_0 : decode cX2_part 0 = .ok (.iload_n 1, 1) := by decide +kernel
theorem dX2_part_1 : decode cX2_part 1 = .ok (.ifCond .ne 10, 3) := by decide +kernel
theorem dX2_part_4 : decode cX2_part 4 = .ok (.aload_n 0, 1) := by decide +kernel
theorem dX2_part_5 : decode cX2_part 5 = .ok (.getfield 7, 3) := by decide +kernel
theorem dX2_part_8 : decode cX2_part 8 = .ok (.goto 7, 3) := by decide +kernel
theorem dX2_part_11 : decode cX2_part 11 = .ok (.aload_n 0, 1) := by decide +kernel
theorem dX2_part_12 : decode cX2_part 12 = .ok (.getfield 13, 3) := by decide +kernel
theorem dX2_part_15 : decode cX2_part 15 = .ok (.lreturn, 1) := by decide +kernel
theorem dX2_commonDivisor_0 : decode cX2_commonDivisor 0 = .ok (.iconst 0, 1) := by decide +kernel
theorem dX2_commonDivisor_1 : decode cX2_commonDivisor 1 = .ok (.istore 4, 2) := by decide +kernel
theorem dX2_commonDivisor_3 : decode cX2_commonDivisor 3 = .ok (.iload 4, 2) := by decide +kernel
theorem dX2_commonDivisor_5 : decode cX2_commonDivisor 5 = .ok (.bipush 100, 2) := by decide +kernel
theorem dX2_commonDivisor_7 : decode cX2_commonDivisor 7 = .ok (.if_icmp .ge 25, 3) := by decide +kernel
theorem dX2_commonDivisor_10 : decode cX2_commonDivisor 10 = .ok (.lload_n 2, 1) := by decide +kernel
theorem dX2_commonDivisor_11 : decode cX2_commonDivisor 11 = .ok (.lconst 0, 1) := by decide +kernel
theorem dX2_commonDivisor_12 : decode cX2_commonDivisor 12 = .ok (.lcmp, 1) := by decide +kernel
theorem dX2_commonDivisor_13 : decode cX2_commonDivisor 13 = .ok (.ifCond .eq 19, 3) := by decide +kernel
theorem dX2_commonDivisor_16 : decode cX2_commonDivisor 16 = .ok (.lload_n 0, 1) := by decide +kernel
theorem dX2_commonDivisor_17 : decode cX2_commonDivisor 17 = .ok (.lload_n 2, 1) := by decide +kernel
theorem dX2_commonDivisor_18 : decode cX2_commonDivisor 18 = .ok (.lrem, 1) := by decide +kernel
theorem dX2_commonDivisor_19 : decode cX2_commonDivisor 19 = .ok (.lstore 5, 2) := by decide +kernel
end
section
theorem dX2_commonDivisor_21 : decode cX2_commonDivisor 21 = .ok (.lload_n 2, 1) := by decide +kernel
theorem dX2_commonDivisor_22 : decode cX2_commonDivisor 22 = .ok (.lstore_n 0, 1) := by decide +kernel
theorem dX2_commonDivisor_23 : decode cX2_commonDivisor 23 = .ok (.lload 5, 2) := by decide +kernel
theorem dX2_commonDivisor_25 : decode cX2_commonDivisor 25 = .ok (.lstore_n 2, 1) := by decide +kernel
theorem dX2_commonDivisor_26 : decode cX2_commonDivisor 26 = .ok (.iinc 4 1, 3) := by decide +kernel
theorem dX2_commonDivisor_29 : decode cX2_commonDivisor 29 = .ok (.goto (-26), 3) := by decide +kernel
theorem dX2_commonDivisor_32 : decode cX2_commonDivisor 32 = .ok (.lload_n 0, 1) := by decide +kernel
theorem dX2_commonDivisor_33 : decode cX2_commonDivisor 33 = .ok (.lreturn, 1) := by decide +kernel
theorem dX3_init_0 : decode cX3_init 0 = .ok (.aload_n 0, 1) := by decide +kernel
theorem dX3_init_1 : decode cX3_init 1 = .ok (.invokespecial 1, 3) := by decide +kernel
theorem dX3_init_4 : decode cX3_init 4 = .ok (.aload_n 0, 1) := by decide +kernel
theorem dX3_init_5 : decode cX3_init 5 = .ok (.lconst 1, 1) := by decide +kernel
theorem dX3_init_6 : decode cX3_init 6 = .ok (.putfield 7, 3) := by decide +kernel
theorem dX3_init_9 : decode cX3_init 9 = .ok (.aload_n 0, 1) := by decide +kernel
theorem dX3_init_10 : decode cX3_init 10 = .ok (.lconst 1, 1) := by decide +kernel
theorem dX3_init_11 : decode cX3_init 11 = .ok (.putfield 13, 3) := by decide +kernel
theorem dX3_init_14 : decode cX3_init 14 = .ok (.aload_n 0, 1) := by decide +kernel
theorem dX3_init_15 : decode cX3_init 15 = .ok (.lconst 1, 1) := by decide +kernel
theorem dX3_init_16 : decode cX3_init 16 = .ok (.putfield 16, 3) := by decide +kernel
theorem dX3_init_19 : decode cX3_init 19 = .ok (.aload_n 0, 1) := by decide +kernel
theorem dX3_init_20 : decode cX3_init 20 = .ok (.aload_n 1, 1) := by decide +kernel
theorem dX3_init_21 : decode cX3_init 21 = .ok (.putfield 19, 3) := by decide +kernel
theorem dX3_init_24 : decode cX3_init 24 = .ok (.return_, 1) := by decide +kernel
theorem dX3_lay_0 : decode cX3_lay 0 = .ok (.aload_n 0, 1) := by decide +kernel
theorem dX3_lay_1 : decode cX3_lay 1 = .ok (.aload_n 1, 1) := by decide +kernel
theorem dX3_lay_2 : decode cX3_lay 2 = .ok (.getfield 23, 3) := by decide +kernel
theorem dX3_lay_5 : decode cX3_lay 5 = .ok (.putfield 28, 3) := by decide +kernel
theorem dX3_lay_8 : decode cX3_lay 8 = .ok (.aload_n 0, 1) := by decide +kernel
theorem dX3_lay_9 : decode cX3_lay 9 = .ok (.aload_n 1, 1) := by decide +kernel
theorem dX3_lay_10 : decode cX3_lay 10 = .ok (.getfield 31, 3) := by decide +kernel
theorem dX3_lay_13 : decode cX3_lay 13 = .ok (.putfield 7, 3) := by decide +kernel
theorem dX3_lay_16 : decode cX3_lay 16 = .ok (.aload_n 0, 1) := by decide +kernel
theorem dX3_lay_17 : decode cX3_lay 17 = .ok (.invokevirtual 34, 3) := by decide +kernel
theorem dX3_lay_20 : decode cX3_lay 20 = .ok (.aload_n 0, 1) := by decide +kernel
theorem dX3_lay_21 : decode cX3_lay 21 = .ok (.invokevirtual 37, 3) := by decide +kernel
theorem dX3_lay_24 : decode cX3_lay 24 = .ok (.return_, 1) := by decide +kernel
theorem dX3_findLeastStart_0 : decode cX3_findLeastStart 0 = .ok (.aload_n 0, 1) := by decide +kernel
theorem dX3_findLeastStart_1 : decode cX3_findLeastStart 1 = .ok (.aload_n 0, 1) := by decide +kernel
theorem dX3_findLeastStart_2 : decode cX3_findLeastStart 2 = .ok (.iconst 0, 1) := by decide +kernel
theorem dX3_findLeastStart_3 : decode cX3_findLeastStart 3 = .ok (.invokevirtual 40, 3) := by decide +kernel
theorem dX3_findLeastStart_6 : decode cX3_findLeastStart 6 = .ok (.putfield 44, 3) := by decide +kernel
theorem dX3_findLeastStart_9 : decode cX3_findLeastStart 9 = .ok (.aload_n 0, 1) := by decide +kernel
theorem dX3_findLeastStart_10 : decode cX3_findLeastStart 10 = .ok (.lconst 1, 1) := by decide +kernel
theorem dX3_findLeastStart_11 : decode cX3_findLeastStart 11 = .ok (.putfield 13, 3) := by decide +kernel
theorem dX3_findLeastStart_14 : decode cX3_findLeastStart 14 = .ok (.iconst 1, 1) := by decide +kernel
theorem dX3_findLeastStart_15 : decode cX3_findLeastStart 15 = .ok (.istore_n 1, 1) := by decide +kernel
theorem dX3_findLeastStart_16 : decode cX3_findLeastStart 16 = .ok (.iload_n 1, 1) := by decide +kernel
theorem dX3_findLeastStart_17 : decode cX3_findLeastStart 17 = .ok (.aload_n 0, 1) := by decide +kernel
theorem dX3_findLeastStart_18 : decode cX3_findLeastStart 18 = .ok (.getfield 19, 3) := by decide +kernel
theorem dX3_findLeastStart_21 : decode cX3_findLeastStart 21 = .ok (.getfield 47, 3) := by decide +kernel
theorem dX3_findLeastStart_24 : decode cX3_findLeastStart 24 = .ok (.if_icmp .ge 114, 3) := by decide +kernel
theorem dX3_findLeastStart_27 : decode cX3_findLeastStart 27 = .ok (.iload_n 1, 1) := by decide +kernel
theorem dX3_findLeastStart_28 : decode cX3_findLeastStart 28 = .ok (.iconst 1, 1) := by decide +kernel
theorem dX3_findLeastStart_29 : decode cX3_findLeastStart 29 = .ok (.iadd, 1) := by decide +kernel
theorem dX3_findLeastStart_30 : decode cX3_findLeastStart 30 = .ok (.istore_n 2, 1) := by decide +kernel
theorem dX3_findLeastStart_31 : decode cX3_findLeastStart 31 = .ok (.iload_n 2, 1) := by decide +kernel
theorem dX3_findLeastStart_32 : decode cX3_findLeastStart 32 = .ok (.aload_n 0, 1) := by decide +kernel
theorem dX3_findLeastStart_33 : decode cX3_findLeastStart 33 = .ok (.getfield 19, 3) := by decide +kernel
theorem dX3_findLeastStart_36 : decode cX3_findLeastStart 36 = .ok (.getfield 47, 3) := by decide +kernel
theorem dX3_findLeastStart_39 : decode cX3_findLeastStart 39 = .ok (.if_icmp .gt 93, 3) := by decide +kernel
theorem dX3_findLeastStart_42 : decode cX3_findLeastStart 42 = .ok (.aload_n 0, 1) := by decide +kernel
theorem dX3_findLeastStart_43 : decode cX3_findLeastStart 43 = .ok (.getfield 19, 3) := by decide +kernel
theorem dX3_findLeastStart_46 : decode cX3_findLeastStart 46 = .ok (.getfield 53, 3) := by decide +kernel
theorem dX3_findLeastStart_49 : decode cX3_findLeastStart 49 = .ok (.iload_n 2, 1) := by decide +kernel
theorem dX3_findLeastStart_50 : decode cX3_findLeastStart 50 = .ok (.iaload, 1) := by decide +kernel
theorem dX3_findLeastStart_51 : decode cX3_findLeastStart 51 = .ok (.i2l, 1) := by decide +kernel
theorem dX3_findLeastStart_52 : decode cX3_findLeastStart 52 = .ok (.aload_n 0, 1) := by decide +kernel
theorem dX3_findLeastStart_53 : decode cX3_findLeastStart 53 = .ok (.iload_n 1, 1) := by decide +kernel
theorem dX3_findLeastStart_54 : decode cX3_findLeastStart 54 = .ok (.invokevirtual 40, 3) := by decide +kernel
theorem dX3_findLeastStart_57 : decode cX3_findLeastStart 57 = .ok (.lmul, 1) := by decide +kernel
theorem dX3_findLeastStart_58 : decode cX3_findLeastStart 58 = .ok (.aload_n 0, 1) := by decide +kernel
theorem dX3_findLeastStart_59 : decode cX3_findLeastStart 59 = .ok (.getfield 19, 3) := by decide +kernel
theorem dX3_findLeastStart_62 : decode cX3_findLeastStart 62 = .ok (.getfield 53, 3) := by decide +kernel
theorem dX3_findLeastStart_65 : decode cX3_findLeastStart 65 = .ok (.iload_n 1, 1) := by decide +kernel
theorem dX3_findLeastStart_66 : decode cX3_findLeastStart 66 = .ok (.iaload, 1) := by decide +kernel
theorem dX3_findLeastStart_67 : decode cX3_findLeastStart 67 = .ok (.i2l, 1) := by decide +kernel
theorem dX3_findLeastStart_68 : decode cX3_findLeastStart 68 = .ok (.aload_n 0, 1) := by decide +kernel
theorem dX3_findLeastStart_69 : decode cX3_findLeastStart 69 = .ok (.iload_n 2, 1) := by decide +kernel
theorem dX3_findLeastStart_70 : decode cX3_findLeastStart 70 = .ok (.invokevirtual 57, 3) := by decide +kernel
theorem dX3_findLeastStart_73 : decode cX3_findLeastStart 73 = .ok (.lmul, 1) := by decide +kernel
theorem dX3_findLeastStart_74 : decode cX3_findLeastStart 74 = .ok (.lsub, 1) := by decide +kernel
theorem dX3_findLeastStart_75 : decode cX3_findLeastStart 75 = .ok (.lstore_n 3, 1) := by decide +kernel
theorem dX3_findLeastStart_76 : decode cX3_findLeastStart 76 = .ok (.aload_n 0, 1) := by decide +kernel
theorem dX3_findLeastStart_77 : decode cX3_findLeastStart 77 = .ok (.getfield 19, 3) := by decide +kernel
theorem dX3_findLeastStart_80 : decode cX3_findLeastStart 80 = .ok (.getfield 53, 3) := by decide +kernel
theorem dX3_findLeastStart_83 : decode cX3_findLeastStart 83 = .ok (.iload_n 2, 1) := by decide +kernel
theorem dX3_findLeastStart_84 : decode cX3_findLeastStart 84 = .ok (.iaload, 1) := by decide +kernel
theorem dX3_findLeastStart_85 : decode cX3_findLeastStart 85 = .ok (.aload_n 0, 1) := by decide +kernel
theorem dX3_findLeastStart_86 : decode cX3_findLeastStart 86 = .ok (.getfield 19, 3) := by decide +kernel
theorem dX3_findLeastStart_89 : decode cX3_findLeastStart 89 = .ok (.getfield 53, 3) := by decide +kernel
theorem dX3_findLeastStart_92 : decode cX3_findLeastStart 92 = .ok (.iload_n 1, 1) := by decide +kernel
theorem dX3_findLeastStart_93 : decode cX3_findLeastStart 93 = .ok (.iaload, 1) := by decide +kernel
theorem dX3_findLeastStart_94 : decode cX3_findLeastStart 94 = .ok (.isub, 1) := by decide +kernel
theorem dX3_findLeastStart_95 : decode cX3_findLeastStart 95 = .ok (.i2l, 1) := by decide +kernel
theorem dX3_findLeastStart_96 : decode cX3_findLeastStart 96 = .ok (.lstore 5, 2) := by decide +kernel
theorem dX3_findLeastStart_98 : decode cX3_findLeastStart 98 = .ok (.lload_n 3, 1) := by decide +kernel
theorem dX3_findLeastStart_99 : decode cX3_findLeastStart 99 = .ok (.aload_n 0, 1) := by decide +kernel
theorem dX3_findLeastStart_100 : decode cX3_findLeastStart 100 = .ok (.getfield 13, 3) := by decide +kernel
theorem dX3_findLeastStart_103 : decode cX3_findLeastStart 103 = .ok (.lmul, 1) := by decide +kernel
theorem dX3_findLeastStart_104 : decode cX3_findLeastStart 104 = .ok (.aload_n 0, 1) := by decide +kernel
theorem dX3_findLeastStart_105 : decode cX3_findLeastStart 105 = .ok (.getfield 44, 3) := by decide +kernel
theorem dX3_findLeastStart_108 : decode cX3_findLeastStart 108 = .ok (.lload 5, 2) := by decide +kernel
theorem dX3_findLeastStart_110 : decode cX3_findLeastStart 110 = .ok (.lmul, 1) := by decide +kernel
theorem dX3_findLeastStart_111 : decode cX3_findLeastStart 111 = .ok (.lcmp, 1) := by decide +kernel
theorem dX3_findLeastStart_112 : decode cX3_findLeastStart 112 = .ok (.ifCond .le 14, 3) := by decide +kernel
theorem dX3_findLeastStart_115 : decode cX3_findLeastStart 115 = .ok (.aload_n 0, 1) := by decide +kernel
theorem dX3_findLeastStart_116 : decode cX3_findLeastStart 116 = .ok (.lload_n 3, 1) := by decide +kernel
theorem dX3_findLeastStart_117 : decode cX3_findLeastStart 117 = .ok (.putfield 44, 3) := by decide +kernel
theorem dX3_findLeastStart_120 : decode cX3_findLeastStart 120 = .ok (.aload_n 0, 1) := by decide +kernel
theorem dX3_findLeastStart_121 : decode cX3_findLeastStart 121 = .ok (.lload 5, 2) := by decide +kernel
theorem dX3_findLeastStart_123 : decode cX3_findLeastStart 123 = .ok (.putfield 13, 3) := by decide +kernel
theorem dX3_findLeastStart_126 : decode cX3_findLeastStart 126 = .ok (.iinc 2 1, 3) := by decide +kernel
theorem dX3_findLeastStart_129 : decode cX3_findLeastStart 129 = .ok (.goto (-98), 3) := by decide +kernel
theorem dX3_findLeastStart_132 : decode cX3_findLeastStart 132 = .ok (.iinc 1 1, 3) := by decide +kernel
theorem dX3_findLeastStart_135 : decode cX3_findLeastStart 135 = .ok (.goto (-119), 3) := by decide +kernel
theorem dX3_findLeastStart_138 : decode cX3_findLeastStart 138 = .ok (.return_, 1) := by decide +kernel
theorem dX3_findLeastSlope_0 : decode cX3_findLeastSlope 0 = .ok (.aload_n 0, 1) := by decide +kernel
theorem dX3_findLeastSlope_1 : decode cX3_findLeastSlope 1 = .ok (.aload_n 0, 1) := by decide +kernel
theorem dX3_findLeastSlope_2 : decode cX3_findLeastSlope 2 = .ok (.aload_n 0, 1) := by decide +kernel
theorem dX3_findLeastSlope_3 : decode cX3_findLeastSlope 3 = .ok (.getfield 19, 3) := by decide +kernel
theorem dX3_findLeastSlope_6 : decode cX3_findLeastSlope 6 = .ok (.getfield 47, 3) := by decide +kernel
theorem dX3_findLeastSlope_9 : decode cX3_findLeastSlope 9 = .ok (.invokevirtual 40, 3) := by decide +kernel
theorem dX3_findLeastSlope_12 : decode cX3_findLeastSlope 12 = .ok (.aload_n 0, 1) := by decide +kernel
theorem dX3_findLeastSlope_13 : decode cX3_findLeastSlope 13 = .ok (.getfield 13, 3) := by decide +kernel
theorem dX3_findLeastSlope_16 : decode cX3_findLeastSlope 16 = .ok (.lmul, 1) := by decide +kernel
theorem dX3_findLeastSlope_17 : decode cX3_findLeastSlope 17 = .ok (.aload_n 0, 1) := by decide +kernel
theorem dX3_findLeastSlope_18 : decode cX3_findLeastSlope 18 = .ok (.getfield 44, 3) := by decide +kernel
theorem dX3_findLeastSlope_21 : decode cX3_findLeastSlope 21 = .ok (.lsub, 1) := by decide +kernel
theorem dX3_findLeastSlope_22 : decode cX3_findLeastSlope 22 = .ok (.putfield 60, 3) := by decide +kernel
theorem dX3_findLeastSlope_25 : decode cX3_findLeastSlope 25 = .ok (.aload_n 0, 1) := by decide +kernel
theorem dX3_findLeastSlope_26 : decode cX3_findLeastSlope 26 = .ok (.aload_n 0, 1) := by decide +kernel
theorem dX3_findLeastSlope_27 : decode cX3_findLeastSlope 27 = .ok (.getfield 19, 3) := by decide +kernel
theorem dX3_findLeastSlope_30 : decode cX3_findLeastSlope 30 = .ok (.invokevirtual 63, 3) := by decide +kernel
theorem dX3_findLeastSlope_33 : decode cX3_findLeastSlope 33 = .ok (.i2l, 1) := by decide +kernel
theorem dX3_findLeastSlope_34 : decode cX3_findLeastSlope 34 = .ok (.putfield 16, 3) := by decide +kernel
theorem dX3_findLeastSlope_37 : decode cX3_findLeastSlope 37 = .ok (.iconst 1, 1) := by decide +kernel
theorem dX3_findLeastSlope_38 : decode cX3_findLeastSlope 38 = .ok (.istore_n 1, 1) := by decide +kernel
theorem dX3_findLeastSlope_39 : decode cX3_findLeastSlope 39 = .ok (.iload_n 1, 1) := by decide +kernel
theorem dX3_findLeastSlope_40 : decode cX3_findLeastSlope 40 = .ok (.aload_n 0, 1) := by decide +kernel
theorem dX3_findLeastSlope_41 : decode cX3_findLeastSlope 41 = .ok (.getfield 19, 3) := by decide +kernel
theorem dX3_findLeastSlope_44 : decode cX3_findLeastSlope 44 = .ok (.getfield 47, 3) := by decide +kernel
theorem dX3_findLeastSlope_47 : decode cX3_findLeastSlope 47 = .ok (.if_icmp .ge 65, 3) := by decide +kernel
theorem dX3_findLeastSlope_50 : decode cX3_findLeastSlope 50 = .ok (.aload_n 0, 1) := by decide +kernel
theorem dX3_findLeastSlope_51 : decode cX3_findLeastSlope 51 = .ok (.iload_n 1, 1) := by decide +kernel
theorem dX3_findLeastSlope_52 : decode cX3_findLeastSlope 52 = .ok (.invokevirtual 40, 3) := by decide +kernel
theorem dX3_findLeastSlope_55 : decode cX3_findLeastSlope 55 = .ok (.aload_n 0, 1) := by decide +kernel
theorem dX3_findLeastSlope_56 : decode cX3_findLeastSlope 56 = .ok (.getfield 13, 3) := by decide +kernel
theorem dX3_findLeastSlope_59 : decode cX3_findLeastSlope 59 = .ok (.lmul, 1) := by decide +kernel
theorem dX3_findLeastSlope_60 : decode cX3_findLeastSlope 60 = .ok (.aload_n 0, 1) := by decide +kernel
theorem dX3_findLeastSlope_61 : decode cX3_findLeastSlope 61 = .ok (.getfield 44, 3) := by decide +kernel
theorem dX3_findLeastSlope_64 : decode cX3_findLeastSlope 64 = .ok (.lsub, 1) := by decide +kernel
theorem dX3_findLeastSlope_65 : decode cX3_findLeastSlope 65 = .ok (.lstore_n 2, 1) := by decide +kernel
theorem dX3_findLeastSlope_66 : decode cX3_findLeastSlope 66 = .ok (.aload_n 0, 1) := by decide +kernel
theorem dX3_findLeastSlope_67 : decode cX3_findLeastSlope 67 = .ok (.getfield 19, 3) := by decide +kernel
theorem dX3_findLeastSlope_70 : decode cX3_findLeastSlope 70 = .ok (.getfield 53, 3) := by decide +kernel
theorem dX3_findLeastSlope_73 : decode cX3_findLeastSlope 73 = .ok (.iload_n 1, 1) := by decide +kernel
theorem dX3_findLeastSlope_74 : decode cX3_findLeastSlope 74 = .ok (.iaload, 1) := by decide +kernel
theorem dX3_findLeastSlope_75 : decode cX3_findLeastSlope 75 = .ok (.i2l, 1) := by decide +kernel
theorem dX3_findLeastSlope_76 : decode cX3_findLeastSlope 76 = .ok (.lstore 4, 2) := by decide +kernel
theorem dX3_findLeastSlope_78 : decode cX3_findLeastSlope 78 = .ok (.lload_n 2, 1) := by decide +kernel
theorem dX3_findLeastSlope_79 : decode cX3_findLeastSlope 79 = .ok (.aload_n 0, 1) := by decide +kernel
theorem dX3_findLeastSlope_80 : decode cX3_findLeastSlope 80 = .ok (.getfield 16, 3) := by decide +kernel
theorem dX3_findLeastSlope_83 : decode cX3_findLeastSlope 83 = .ok (.lmul, 1) := by decide +kernel
theorem dX3_findLeastSlope_84 : decode cX3_findLeastSlope 84 = .ok (.aload_n 0, 1) := by decide +kernel
theorem dX3_findLeastSlope_85 : decode cX3_findLeastSlope 85 = .ok (.getfield 60, 3) := by decide +kernel
theorem dX3_findLeastSlope_88 : decode cX3_findLeastSlope 88 = .ok (.lload 4, 2) := by decide +kernel
theorem dX3_findLeastSlope_90 : decode cX3_findLeastSlope 90 = .ok (.lmul, 1) := by decide +kernel
theorem dX3_findLeastSlope_91 : decode cX3_findLeastSlope 91 = .ok (.lcmp, 1) := by decide +kernel
theorem dX3_findLeastSlope_92 : decode cX3_findLeastSlope 92 = .ok (.ifCond .le 14, 3) := by decide +kernel
theorem dX3_findLeastSlope_95 : decode cX3_findLeastSlope 95 = .ok (.aload_n 0, 1) := by decide +kernel
theorem dX3_findLeastSlope_96 : decode cX3_findLeastSlope 96 = .ok (.lload_n 2, 1) := by decide +kernel
theorem dX3_findLeastSlope_97 : decode cX3_findLeastSlope 97 = .ok (.putfield 60, 3) := by decide +kernel
theorem dX3_findLeastSlope_100 : decode cX3_findLeastSlope 100 = .ok (.aload_n 0, 1) := by decide +kernel
theorem dX3_findLeastSlope_101 : decode cX3_findLeastSlope 101 = .ok (.lload 4, 2) := by decide +kernel
theorem dX3_findLeastSlope_103 : decode cX3_findLeastSlope 103 = .ok (.putfield 16, 3) := by decide +kernel
theorem dX3_findLeastSlope_106 : decode cX3_findLeastSlope 106 = .ok (.iinc 1 1, 3) := by decide +kernel
theorem dX3_findLeastSlope_109 : decode cX3_findLeastSlope 109 = .ok (.goto (-70), 3) := by decide +kernel
theorem dX3_findLeastSlope_112 : decode cX3_findLeastSlope 112 = .ok (.return_, 1) := by decide +kernel
theorem dX3_heightInto_0 : decode cX3_heightInto 0 = .ok (.aload_n 0, 1) := by decide +kernel
theorem dX3_heightInto_1 : decode cX3_heightInto 1 = .ok (.getfield 44, 3) := by decide +kernel
theorem dX3_heightInto_4 : decode cX3_heightInto 4 = .ok (.aload_n 0, 1) := by decide +kernel
theorem dX3_heightInto_5 : decode cX3_heightInto 5 = .ok (.getfield 16, 3) := by decide +kernel
theorem dX3_heightInto_8 : decode cX3_heightInto 8 = .ok (.lmul, 1) := by decide +kernel
theorem dX3_heightInto_9 : decode cX3_heightInto 9 = .ok (.aload_n 0, 1) := by decide +kernel
theorem dX3_heightInto_10 : decode cX3_heightInto 10 = .ok (.getfield 60, 3) := by decide +kernel
theorem dX3_heightInto_13 : decode cX3_heightInto 13 = .ok (.aload_n 0, 1) := by decide +kernel
theorem dX3_heightInto_14 : decode cX3_heightInto 14 = .ok (.getfield 19, 3) := by decide +kernel
theorem dX3_heightInto_17 : decode cX3_heightInto 17 = .ok (.getfield 53, 3) := by decide +kernel
theorem dX3_heightInto_20 : decode cX3_heightInto 20 = .ok (.iload_n 2, 1) := by decide +kernel
theorem dX3_heightInto_21 : decode cX3_heightInto 21 = .ok (.iaload, 1) := by decide +kernel
theorem dX3_heightInto_22 : decode cX3_heightInto 22 = .ok (.i2l, 1) := by decide +kernel
theorem dX3_heightInto_23 : decode cX3_heightInto 23 = .ok (.lmul, 1) := by decide +kernel
theorem dX3_heightInto_24 : decode cX3_heightInto 24 = .ok (.ladd, 1) := by decide +kernel
theorem dX3_heightInto_25 : decode cX3_heightInto 25 = .ok (.lstore_n 3, 1) := by decide +kernel
theorem dX3_heightInto_26 : decode cX3_heightInto 26 = .ok (.aload_n 0, 1) := by decide +kernel
theorem dX3_heightInto_27 : decode cX3_heightInto 27 = .ok (.getfield 19, 3) := by decide +kernel
theorem dX3_heightInto_30 : decode cX3_heightInto 30 = .ok (.getfield 67, 3) := by decide +kernel
theorem dX3_heightInto_33 : decode cX3_heightInto 33 = .ok (.iload_n 2, 1) := by decide +kernel
theorem dX3_heightInto_34 : decode cX3_heightInto 34 = .ok (.iaload, 1) := by decide +kernel
theorem dX3_heightInto_35 : decode cX3_heightInto 35 = .ok (.i2l, 1) := by decide +kernel
theorem dX3_heightInto_36 : decode cX3_heightInto 36 = .ok (.aload_n 0, 1) := by decide +kernel
theorem dX3_heightInto_37 : decode cX3_heightInto 37 = .ok (.getfield 28, 3) := by decide +kernel
theorem dX3_heightInto_40 : decode cX3_heightInto 40 = .ok (.lmul, 1) := by decide +kernel
theorem dX3_heightInto_41 : decode cX3_heightInto 41 = .ok (.aload_n 0, 1) := by decide +kernel
theorem dX3_heightInto_42 : decode cX3_heightInto 42 = .ok (.getfield 13, 3) := by decide +kernel
theorem dX3_heightInto_45 : decode cX3_heightInto 45 = .ok (.lmul, 1) := by decide +kernel
theorem dX3_heightInto_46 : decode cX3_heightInto 46 = .ok (.aload_n 0, 1) := by decide +kernel
theorem dX3_heightInto_47 : decode cX3_heightInto 47 = .ok (.getfield 16, 3) := by decide +kernel
theorem dX3_heightInto_50 : decode cX3_heightInto 50 = .ok (.lmul, 1) := by decide +kernel
theorem dX3_heightInto_51 : decode cX3_heightInto 51 = .ok (.lstore 5, 2) := by decide +kernel
theorem dX3_heightInto_53 : decode cX3_heightInto 53 = .ok (.aload_n 1, 1) := by decide +kernel
theorem dX3_heightInto_54 : decode cX3_heightInto 54 = .ok (.lload_n 3, 1) := by decide +kernel
theorem dX3_heightInto_55 : decode cX3_heightInto 55 = .ok (.lload 5, 2) := by decide +kernel
theorem dX3_heightInto_57 : decode cX3_heightInto 57 = .ok (.ladd, 1) := by decide +kernel
theorem dX3_heightInto_58 : decode cX3_heightInto 58 = .ok (.aload_n 0, 1) := by decide +kernel
theorem dX3_heightInto_59 : decode cX3_heightInto 59 = .ok (.getfield 7, 3) := by decide +kernel
theorem dX3_heightInto_62 : decode cX3_heightInto 62 = .ok (.aload_n 0, 1) := by decide +kernel
theorem dX3_heightInto_63 : decode cX3_heightInto 63 = .ok (.getfield 13, 3) := by decide +kernel
theorem dX3_heightInto_66 : decode cX3_heightInto 66 = .ok (.lmul, 1) := by decide +kernel
theorem dX3_heightInto_67 : decode cX3_heightInto 67 = .ok (.aload_n 0, 1) := by decide +kernel
theorem dX3_heightInto_68 : decode cX3_heightInto 68 = .ok (.getfield 16, 3) := by decide +kernel
theorem dX3_heightInto_71 : decode cX3_heightInto 71 = .ok (.lmul, 1) := by decide +kernel
theorem dX3_heightInto_72 : decode cX3_heightInto 72 = .ok (.invokevirtual 70, 3) := by decide +kernel
theorem dX3_heightInto_75 : decode cX3_heightInto 75 = .ok (.return_, 1) := by decide +kernel
theorem dX3_straightLow_0 : decode cX3_straightLow 0 = .ok (.aload_n 0, 1) := by decide +kernel
theorem dX3_straightLow_1 : decode cX3_straightLow 1 = .ok (.getfield 19, 3) := by decide +kernel
theorem dX3_straightLow_4 : decode cX3_straightLow 4 = .ok (.getfield 74, 3) := by decide +kernel
theorem dX3_straightLow_7 : decode cX3_straightLow 7 = .ok (.iload_n 1, 1) := by decide +kernel
theorem dX3_straightLow_8 : decode cX3_straightLow 8 = .ok (.iaload, 1) := by decide +kernel
theorem dX3_straightLow_9 : decode cX3_straightLow 9 = .ok (.i2l, 1) := by decide +kernel
theorem dX3_straightLow_10 : decode cX3_straightLow 10 = .ok (.aload_n 0, 1) := by decide +kernel
theorem dX3_straightLow_11 : decode cX3_straightLow 11 = .ok (.getfield 7, 3) := by decide +kernel
theorem dX3_straightLow_14 : decode cX3_straightLow 14 = .ok (.lmul, 1) := by decide +kernel
theorem dX3_straightLow_15 : decode cX3_straightLow 15 = .ok (.aload_n 0, 1) := by decide +kernel
theorem dX3_straightLow_16 : decode cX3_straightLow 16 = .ok (.getfield 19, 3) := by decide +kernel
theorem dX3_straightLow_19 : decode cX3_straightLow 19 = .ok (.getfield 67, 3) := by decide +kernel
theorem dX3_straightLow_22 : decode cX3_straightLow 22 = .ok (.iload_n 1, 1) := by decide +kernel
theorem dX3_straightLow_23 : decode cX3_straightLow 23 = .ok (.iaload, 1) := by decide +kernel
theorem dX3_straightLow_24 : decode cX3_straightLow 24 = .ok (.i2l, 1) := by decide +kernel
theorem dX3_straightLow_25 : decode cX3_straightLow 25 = .ok (.aload_n 0, 1) := by decide +kernel
theorem dX3_straightLow_26 : decode cX3_straightLow 26 = .ok (.getfield 28, 3) := by decide +kernel
theorem dX3_straightLow_29 : decode cX3_straightLow 29 = .ok (.lmul, 1) := by decide +kernel
theorem dX3_straightLow_30 : decode cX3_straightLow 30 = .ok (.lsub, 1) := by decide +kernel
theorem dX3_straightLow_31 : decode cX3_straightLow 31 = .ok (.lreturn, 1) := by decide +kernel
theorem dX3_straightHigh_0 : decode cX3_straightHigh 0 = .ok (.aload_n 0, 1) := by decide +kernel
theorem dX3_straightHigh_1 : decode cX3_straightHigh 1 = .ok (.getfield 19, 3) := by decide +kernel
theorem dX3_straightHigh_4 : decode cX3_straightHigh 4 = .ok (.getfield 77, 3) := by decide +kernel
theorem dX3_straightHigh_7 : decode cX3_straightHigh 7 = .ok (.iload_n 1, 1) := by decide +kernel
theorem dX3_straightHigh_8 : decode cX3_straightHigh 8 = .ok (.iaload, 1) := by decide +kernel
theorem dX3_straightHigh_9 : decode cX3_straightHigh 9 = .ok (.i2l, 1) := by decide +kernel
theorem dX3_straightHigh_10 : decode cX3_straightHigh 10 = .ok (.aload_n 0, 1) := by decide +kernel
theorem dX3_straightHigh_11 : decode cX3_straightHigh 11 = .ok (.getfield 7, 3) := by decide +kernel
theorem dX3_straightHigh_14 : decode cX3_straightHigh 14 = .ok (.lmul, 1) := by decide +kernel
theorem dX3_straightHigh_15 : decode cX3_straightHigh 15 = .ok (.aload_n 0, 1) := by decide +kernel
theorem dX3_straightHigh_16 : decode cX3_straightHigh 16 = .ok (.getfield 19, 3) := by decide +kernel
theorem dX3_straightHigh_19 : decode cX3_straightHigh 19 = .ok (.getfield 67, 3) := by decide +kernel
theorem dX3_straightHigh_22 : decode cX3_straightHigh 22 = .ok (.iload_n 1, 1) := by decide +kernel
theorem dX3_straightHigh_23 : decode cX3_straightHigh 23 = .ok (.iaload, 1) := by decide +kernel
theorem dX3_straightHigh_24 : decode cX3_straightHigh 24 = .ok (.i2l, 1) := by decide +kernel
theorem dX3_straightHigh_25 : decode cX3_straightHigh 25 = .ok (.aload_n 0, 1) := by decide +kernel
theorem dX3_straightHigh_26 : decode cX3_straightHigh 26 = .ok (.getfield 28, 3) := by decide +kernel
theorem dX3_straightHigh_29 : decode cX3_straightHigh 29 = .ok (.lmul, 1) := by decide +kernel
theorem dX3_straightHigh_30 : decode cX3_straightHigh 30 = .ok (.lsub, 1) := by decide +kernel
theorem dX3_straightHigh_31 : decode cX3_straightHigh 31 = .ok (.lreturn, 1) := by decide +kernel
theorem dX4_init_0 : decode cX4_init 0 = .ok (.aload_n 0, 1) := by decide +kernel
theorem dX4_init_1 : decode cX4_init 1 = .ok (.invokespecial 3, 3) := by decide +kernel
theorem dX4_init_4 : decode cX4_init 4 = .ok (.aload_n 0, 1) := by decide +kernel
theorem dX4_init_5 : decode cX4_init 5 = .ok (.bipush 28, 2) := by decide +kernel
theorem dX4_init_7 : decode cX4_init 7 = .ok (.newarray .int, 2) := by decide +kernel
theorem dX4_init_9 : decode cX4_init 9 = .ok (.putfield 9, 3) := by decide +kernel
theorem dX4_init_12 : decode cX4_init 12 = .ok (.return_, 1) := by decide +kernel
theorem dX4_hold_0 : decode cX4_hold 0 = .ok (.aload_n 0, 1) := by decide +kernel
theorem dX4_hold_1 : decode cX4_hold 1 = .ok (.iconst 1, 1) := by decide +kernel
theorem dX4_hold_2 : decode cX4_hold 2 = .ok (.putfield 15, 3) := by decide +kernel
theorem dX4_hold_5 : decode cX4_hold 5 = .ok (.aload_n 0, 1) := by decide +kernel
theorem dX4_hold_6 : decode cX4_hold 6 = .ok (.iload_n 1, 1) := by decide +kernel
theorem dX4_hold_7 : decode cX4_hold 7 = .ok (.putfield 19, 3) := by decide +kernel
theorem dX4_hold_10 : decode cX4_hold 10 = .ok (.aload_n 0, 1) := by decide +kernel
theorem dX4_hold_11 : decode cX4_hold 11 = .ok (.iload_n 2, 1) := by decide +kernel
theorem dX4_hold_12 : decode cX4_hold 12 = .ok (.putfield 23, 3) := by decide +kernel
theorem dX4_hold_15 : decode cX4_hold 15 = .ok (.aload_n 0, 1) := by decide +kernel
theorem dX4_hold_16 : decode cX4_hold 16 = .ok (.getfield 9, 3) := by decide +kernel
theorem dX4_hold_19 : decode cX4_hold 19 = .ok (.iconst 0, 1) := by decide +kernel
theorem dX4_hold_20 : decode cX4_hold 20 = .ok (.invokestatic 26, 3) := by decide +kernel
theorem dX4_hold_23 : decode cX4_hold 23 = .ok (.return_, 1) := by decide +kernel
theorem dX5_init_0 : decode cX5_init 0 = .ok (.aload_n 0, 1) := by decide +kernel
theorem dX5_init_1 : decode cX5_init 1 = .ok (.invokespecial 1, 3) := by decide +kernel
theorem dX5_init_4 : decode cX5_init 4 = .ok (.aload_n 0, 1) := by decide +kernel
theorem dX5_init_5 : decode cX5_init 5 = .ok (.bipush 36, 2) := by decide +kernel
theorem dX5_init_7 : decode cX5_init 7 = .ok (.newarray .long, 2) := by decide +kernel
theorem dX5_init_9 : decode cX5_init 9 = .ok (.putfield 9, 3) := by decide +kernel
theorem dX5_init_12 : decode cX5_init 12 = .ok (.aload_n 0, 1) := by decide +kernel
theorem dX5_init_13 : decode cX5_init 13 = .ok (.bipush 36, 2) := by decide +kernel
theorem dX5_init_15 : decode cX5_init 15 = .ok (.newarray .long, 2) := by decide +kernel
theorem dX5_init_17 : decode cX5_init 17 = .ok (.putfield 13, 3) := by decide +kernel
theorem dX5_init_20 : decode cX5_init 20 = .ok (.aload_n 0, 1) := by decide +kernel
theorem dX5_init_21 : decode cX5_init 21 = .ok (.bipush 36, 2) := by decide +kernel
theorem dX5_init_23 : decode cX5_init 23 = .ok (.newarray .long, 2) := by decide +kernel
theorem dX5_init_25 : decode cX5_init 25 = .ok (.putfield 16, 3) := by decide +kernel
theorem dX5_init_28 : decode cX5_init 28 = .ok (.aload_n 0, 1) := by decide +kernel
theorem dX5_init_29 : decode cX5_init 29 = .ok (.aload_n 1, 1) := by decide +kernel
theorem dX5_init_30 : decode cX5_init 30 = .ok (.putfield 19, 3) := by decide +kernel
theorem dX5_init_33 : decode cX5_init 33 = .ok (.aload_n 0, 1) := by decide +kernel
theorem dX5_init_34 : decode cX5_init 34 = .ok (.getfield 16, 3) := by decide +kernel
theorem dX5_init_37 : decode cX5_init 37 = .ok (.iconst 0, 1) := by decide +kernel
theorem dX5_init_38 : decode cX5_init 38 = .ok (.lconst 1, 1) := by decide +kernel
theorem dX5_init_39 : decode cX5_init 39 = .ok (.lastore, 1) := by decide +kernel
theorem dX5_init_40 : decode cX5_init 40 = .ok (.return_, 1) := by decide +kernel
theorem dX5_gather_0 : decode cX5_gather 0 = .ok (.aload_n 0, 1) := by decide +kernel
theorem dX5_gather_1 : decode cX5_gather 1 = .ok (.getfield 19, 3) := by decide +kernel
theorem dX5_gather_4 : decode cX5_gather 4 = .ok (.aload_n 1, 1) := by decide +kernel
theorem dX5_gather_5 : decode cX5_gather 5 = .ok (.invokevirtual 23, 3) := by decide +kernel
theorem dX5_gather_8 : decode cX5_gather 8 = .ok (.aload_n 0, 1) := by decide +kernel
theorem dX5_gather_9 : decode cX5_gather 9 = .ok (.iconst 0, 1) := by decide +kernel
theorem dX5_gather_10 : decode cX5_gather 10 = .ok (.putfield 29, 3) := by decide +kernel
theorem dX5_gather_13 : decode cX5_gather 13 = .ok (.iconst 0, 1) := by decide +kernel
theorem dX5_gather_14 : decode cX5_gather 14 = .ok (.istore_n 2, 1) := by decide +kernel
theorem dX5_gather_15 : decode cX5_gather 15 = .ok (.iload_n 2, 1) := by decide +kernel
theorem dX5_gather_16 : decode cX5_gather 16 = .ok (.aload_n 0, 1) := by decide +kernel
theorem dX5_gather_17 : decode cX5_gather 17 = .ok (.getfield 19, 3) := by decide +kernel
theorem dX5_gather_20 : decode cX5_gather 20 = .ok (.getfield 33, 3) := by decide +kernel
theorem dX5_gather_23 : decode cX5_gather 23 = .ok (.iconst 2, 1) := by decide +kernel
theorem dX5_gather_24 : decode cX5_gather 24 = .ok (.isub, 1) := by decide +kernel
theorem dX5_gather_25 : decode cX5_gather 25 = .ok (.if_icmp .gt 174, 3) := by decide +kernel
theorem dX5_gather_28 : decode cX5_gather 28 = .ok (.iload_n 2, 1) := by decide +kernel
theorem dX5_gather_29 : decode cX5_gather 29 = .ok (.iconst 1, 1) := by decide +kernel
theorem dX5_gather_30 : decode cX5_gather 30 = .ok (.iadd, 1) := by decide +kernel
theorem dX5_gather_31 : decode cX5_gather 31 = .ok (.istore_n 3, 1) := by decide +kernel
theorem dX5_gather_32 : decode cX5_gather 32 = .ok (.iload_n 3, 1) := by decide +kernel
theorem dX5_gather_33 : decode cX5_gather 33 = .ok (.aload_n 0, 1) := by decide +kernel
theorem dX5_gather_34 : decode cX5_gather 34 = .ok (.getfield 19, 3) := by decide +kernel
theorem dX5_gather_37 : decode cX5_gather 37 = .ok (.getfield 33, 3) := by decide +kernel
theorem dX5_gather_40 : decode cX5_gather 40 = .ok (.if_icmp .ge 153, 3) := by decide +kernel
theorem dX5_gather_43 : decode cX5_gather 43 = .ok (.iload_n 3, 1) := by decide +kernel
theorem dX5_gather_44 : decode cX5_gather 44 = .ok (.iconst 1, 1) := by decide +kernel
theorem dX5_gather_45 : decode cX5_gather 45 = .ok (.iadd, 1) := by decide +kernel
theorem dX5_gather_46 : decode cX5_gather 46 = .ok (.istore 4, 2) := by decide +kernel
theorem dX5_gather_48 : decode cX5_gather 48 = .ok (.iload 4, 2) := by decide +kernel
theorem dX5_gather_50 : decode cX5_gather 50 = .ok (.aload_n 0, 1) := by decide +kernel
theorem dX5_gather_51 : decode cX5_gather 51 = .ok (.getfield 19, 3) := by decide +kernel
theorem dX5_gather_54 : decode cX5_gather 54 = .ok (.getfield 33, 3) := by decide +kernel
theorem dX5_gather_57 : decode cX5_gather 57 = .ok (.if_icmp .gt 130, 3) := by decide +kernel
theorem dX5_gather_60 : decode cX5_gather 60 = .ok (.aload_n 0, 1) := by decide +kernel
theorem dX5_gather_61 : decode cX5_gather 61 = .ok (.getfield 29, 3) := by decide +kernel
theorem dX5_gather_64 : decode cX5_gather 64 = .ok (.bipush 35, 2) := by decide +kernel
theorem dX5_gather_66 : decode cX5_gather 66 = .ok (.if_icmp .ge 121, 3) := by decide +kernel
theorem dX5_gather_69 : decode cX5_gather 69 = .ok (.aload_n 0, 1) := by decide +kernel
theorem dX5_gather_70 : decode cX5_gather 70 = .ok (.dup, 1) := by decide +kernel
theorem dX5_gather_71 : decode cX5_gather 71 = .ok (.getfield 29, 3) := by decide +kernel
theorem dX5_gather_74 : decode cX5_gather 74 = .ok (.iconst 1, 1) := by decide +kernel
theorem dX5_gather_75 : decode cX5_gather 75 = .ok (.iadd, 1) := by decide +kernel
theorem dX5_gather_76 : decode cX5_gather 76 = .ok (.putfield 29, 3) := by decide +kernel
theorem dX5_gather_79 : decode cX5_gather 79 = .ok (.aload_n 0, 1) := by decide +kernel
theorem dX5_gather_80 : decode cX5_gather 80 = .ok (.getfield 19, 3) := by decide +kernel
theorem dX5_gather_83 : decode cX5_gather 83 = .ok (.aload_n 0, 1) := by decide +kernel
theorem dX5_gather_84 : decode cX5_gather 84 = .ok (.getfield 19, 3) := by decide +kernel
theorem dX5_gather_87 : decode cX5_gather 87 = .ok (.getfield 36, 3) := by decide +kernel
theorem dX5_gather_90 : decode cX5_gather 90 = .ok (.aload_n 0, 1) := by decide +kernel
theorem dX5_gather_91 : decode cX5_gather 91 = .ok (.getfield 19, 3) := by decide +kernel
theorem dX5_gather_94 : decode cX5_gather 94 = .ok (.getfield 40, 3) := by decide +kernel
theorem dX5_gather_97 : decode cX5_gather 97 = .ok (.iload_n 2, 1) := by decide +kernel
theorem dX5_gather_98 : decode cX5_gather 98 = .ok (.iload_n 3, 1) := by decide +kernel
theorem dX5_gather_99 : decode cX5_gather 99 = .ok (.iload 4, 2) := by decide +kernel
theorem dX5_gather_101 : decode cX5_gather 101 = .ok (.invokevirtual 43, 3) := by decide +kernel
theorem dX5_gather_104 : decode cX5_gather 104 = .ok (.lstore 5, 2) := by decide +kernel
theorem dX5_gather_106 : decode cX5_gather 106 = .ok (.aload_n 0, 1) := by decide +kernel
theorem dX5_gather_107 : decode cX5_gather 107 = .ok (.getfield 19, 3) := by decide +kernel
theorem dX5_gather_110 : decode cX5_gather 110 = .ok (.aload_n 0, 1) := by decide +kernel
theorem dX5_gather_111 : decode cX5_gather 111 = .ok (.getfield 19, 3) := by decide +kernel
theorem dX5_gather_114 : decode cX5_gather 114 = .ok (.getfield 40, 3) := by decide +kernel
theorem dX5_gather_117 : decode cX5_gather 117 = .ok (.aload_n 0, 1) := by decide +kernel
theorem dX5_gather_118 : decode cX5_gather 118 = .ok (.getfield 19, 3) := by decide +kernel
theorem dX5_gather_121 : decode cX5_gather 121 = .ok (.getfield 36, 3) := by decide +kernel
theorem dX5_gather_124 : decode cX5_gather 124 = .ok (.iload_n 2, 1) := by decide +kernel
theorem dX5_gather_125 : decode cX5_gather 125 = .ok (.iload_n 3, 1) := by decide +kernel
theorem dX5_gather_126 : decode cX5_gather 126 = .ok (.iload 4, 2) := by decide +kernel
theorem dX5_gather_128 : decode cX5_gather 128 = .ok (.invokevirtual 43, 3) := by decide +kernel
theorem dX5_gather_131 : decode cX5_gather 131 = .ok (.lstore 7, 2) := by decide +kernel
theorem dX5_gather_133 : decode cX5_gather 133 = .ok (.aload_n 0, 1) := by decide +kernel
theorem dX5_gather_134 : decode cX5_gather 134 = .ok (.getfield 9, 3) := by decide +kernel
theorem dX5_gather_137 : decode cX5_gather 137 = .ok (.aload_n 0, 1) := by decide +kernel
theorem dX5_gather_138 : decode cX5_gather 138 = .ok (.getfield 29, 3) := by decide +kernel
theorem dX5_gather_141 : decode cX5_gather 141 = .ok (.lload 5, 2) := by decide +kernel
theorem dX5_gather_143 : decode cX5_gather 143 = .ok (.lload 7, 2) := by decide +kernel
theorem dX5_gather_145 : decode cX5_gather 145 = .ok (.ladd, 1) := by decide +kernel
theorem dX5_gather_146 : decode cX5_gather 146 = .ok (.lastore, 1) := by decide +kernel
theorem dX5_gather_147 : decode cX5_gather 147 = .ok (.aload_n 0, 1) := by decide +kernel
theorem dX5_gather_148 : decode cX5_gather 148 = .ok (.getfield 13, 3) := by decide +kernel
theorem dX5_gather_151 : decode cX5_gather 151 = .ok (.aload_n 0, 1) := by decide +kernel
theorem dX5_gather_152 : decode cX5_gather 152 = .ok (.getfield 29, 3) := by decide +kernel
theorem dX5_gather_155 : decode cX5_gather 155 = .ok (.lload 7, 2) := by decide +kernel
theorem dX5_gather_157 : decode cX5_gather 157 = .ok (.lload 5, 2) := by decide +kernel
theorem dX5_gather_159 : decode cX5_gather 159 = .ok (.lsub, 1) := by decide +kernel
theorem dX5_gather_160 : decode cX5_gather 160 = .ok (.lastore, 1) := by decide +kernel
theorem dX5_gather_161 : decode cX5_gather 161 = .ok (.aload_n 0, 1) := by decide +kernel
theorem dX5_gather_162 : decode cX5_gather 162 = .ok (.getfield 16, 3) := by decide +kernel
theorem dX5_gather_165 : decode cX5_gather 165 = .ok (.aload_n 0, 1) := by decide +kernel
theorem dX5_gather_166 : decode cX5_gather 166 = .ok (.getfield 29, 3) := by decide +kernel
theorem dX5_gather_169 : decode cX5_gather 169 = .ok (.aload_n 0, 1) := by decide +kernel
theorem dX5_gather_170 : decode cX5_gather 170 = .ok (.getfield 19, 3) := by decide +kernel
theorem dX5_gather_173 : decode cX5_gather 173 = .ok (.iload_n 2, 1) := by decide +kernel
theorem dX5_gather_174 : decode cX5_gather 174 = .ok (.iload_n 3, 1) := by decide +kernel
theorem dX5_gather_175 : decode cX5_gather 175 = .ok (.iload 4, 2) := by decide +kernel
theorem dX5_gather_177 : decode cX5_gather 177 = .ok (.invokevirtual 47, 3) := by decide +kernel
theorem dX5_gather_180 : decode cX5_gather 180 = .ok (.lastore, 1) := by decide +kernel
theorem dX5_gather_181 : decode cX5_gather 181 = .ok (.iinc 4 1, 3) := by decide +kernel
theorem dX5_gather_184 : decode cX5_gather 184 = .ok (.goto (-136), 3) := by decide +kernel
theorem dX5_gather_187 : decode cX5_gather 187 = .ok (.iinc 3 1, 3) := by decide +kernel
theorem dX5_gather_190 : decode cX5_gather 190 = .ok (.goto (-158), 3) := by decide +kernel
theorem dX5_gather_193 : decode cX5_gather 193 = .ok (.iinc 2 1, 3) := by decide +kernel
theorem dX5_gather_196 : decode cX5_gather 196 = .ok (.goto (-181), 3) := by decide +kernel
theorem dX5_gather_199 : decode cX5_gather 199 = .ok (.return_, 1) := by decide +kernel
theorem dX5_hold_0 : decode cX5_hold 0 = .ok (.iconst 1, 1) := by decide +kernel
theorem dX5_hold_1 : decode cX5_hold 1 = .ok (.istore_n 1, 1) := by decide +kernel
theorem dX5_hold_2 : decode cX5_hold 2 = .ok (.iload_n 1, 1) := by decide +kernel
theorem dX5_hold_3 : decode cX5_hold 3 = .ok (.aload_n 0, 1) := by decide +kernel
theorem dX5_hold_4 : decode cX5_hold 4 = .ok (.getfield 29, 3) := by decide +kernel
theorem dX5_hold_7 : decode cX5_hold 7 = .ok (.if_icmp .gt 41, 3) := by decide +kernel
theorem dX5_hold_10 : decode cX5_hold 10 = .ok (.aload_n 0, 1) := by decide +kernel
theorem dX5_hold_11 : decode cX5_hold 11 = .ok (.getfield 16, 3) := by decide +kernel
theorem dX5_hold_14 : decode cX5_hold 14 = .ok (.iload_n 1, 1) := by decide +kernel
theorem dX5_hold_15 : decode cX5_hold 15 = .ok (.laload, 1) := by decide +kernel
theorem dX5_hold_16 : decode cX5_hold 16 = .ok (.lconst 0, 1) := by decide +kernel
theorem dX5_hold_17 : decode cX5_hold 17 = .ok (.lcmp, 1) := by decide +kernel
theorem dX5_hold_18 : decode cX5_hold 18 = .ok (.ifCond .ne 24, 3) := by decide +kernel
theorem dX5_hold_21 : decode cX5_hold 21 = .ok (.aload_n 0, 1) := by decide +kernel
theorem dX5_hold_22 : decode cX5_hold 22 = .ok (.getfield 9, 3) := by decide +kernel
theorem dX5_hold_25 : decode cX5_hold 25 = .ok (.iload_n 1, 1) := by decide +kernel
theorem dX5_hold_26 : decode cX5_hold 26 = .ok (.laload, 1) := by decide +kernel
theorem dX5_hold_27 : decode cX5_hold 27 = .ok (.invokestatic 50, 3) := by decide +kernel
theorem dX5_hold_30 : decode cX5_hold 30 = .ok (.aload_n 0, 1) := by decide +kernel
theorem dX5_hold_31 : decode cX5_hold 31 = .ok (.getfield 13, 3) := by decide +kernel
theorem dX5_hold_34 : decode cX5_hold 34 = .ok (.iload_n 1, 1) := by decide +kernel
theorem dX5_hold_35 : decode cX5_hold 35 = .ok (.laload, 1) := by decide +kernel
theorem dX5_hold_36 : decode cX5_hold 36 = .ok (.lcmp, 1) := by decide +kernel
theorem dX5_hold_37 : decode cX5_hold 37 = .ok (.ifCond .le 5, 3) := by decide +kernel
theorem dX5_hold_40 : decode cX5_hold 40 = .ok (.iconst 0, 1) := by decide +kernel
theorem dX5_hold_41 : decode cX5_hold 41 = .ok (.ireturn, 1) := by decide +kernel
theorem dX5_hold_42 : decode cX5_hold 42 = .ok (.iinc 1 1, 3) := by decide +kernel
theorem dX5_hold_45 : decode cX5_hold 45 = .ok (.goto (-43), 3) := by decide +kernel
theorem dX5_hold_48 : decode cX5_hold 48 = .ok (.aload_n 0, 1) := by decide +kernel
theorem dX5_hold_49 : decode cX5_hold 49 = .ok (.aload_n 0, 1) := by decide +kernel
theorem dX5_hold_50 : decode cX5_hold 50 = .ok (.lconst 1, 1) := by decide +kernel
theorem dX5_hold_51 : decode cX5_hold 51 = .ok (.lconst 1, 1) := by decide +kernel
theorem dX5_hold_52 : decode cX5_hold 52 = .ok (.invokevirtual 56, 3) := by decide +kernel
theorem dX5_hold_55 : decode cX5_hold 55 = .ok (.aload_n 0, 1) := by decide +kernel
theorem dX5_hold_56 : decode cX5_hold 56 = .ok (.lconst 1, 1) := by decide +kernel
theorem dX5_hold_57 : decode cX5_hold 57 = .ok (.lconst 1, 1) := by decide +kernel
theorem dX5_hold_58 : decode cX5_hold 58 = .ok (.invokevirtual 60, 3) := by decide +kernel
theorem dX5_hold_61 : decode cX5_hold 61 = .ok (.lconst 1, 1) := by decide +kernel
theorem dX5_hold_62 : decode cX5_hold 62 = .ok (.lconst 1, 1) := by decide +kernel
theorem dX5_hold_63 : decode cX5_hold 63 = .ok (.invokevirtual 63, 3) := by decide +kernel
theorem dX5_hold_66 : decode cX5_hold 66 = .ok (.ifCond .ne 7, 3) := by decide +kernel
theorem dX5_hold_69 : decode cX5_hold 69 = .ok (.iconst 1, 1) := by decide +kernel
theorem dX5_hold_70 : decode cX5_hold 70 = .ok (.goto 4, 3) := by decide +kernel
theorem dX5_hold_73 : decode cX5_hold 73 = .ok (.iconst 0, 1) := by decide +kernel
theorem dX5_hold_74 : decode cX5_hold 74 = .ok (.ireturn, 1) := by decide +kernel
theorem dX5_greatestPush_0 : decode cX5_greatestPush 0 = .ok (.aload_n 0, 1) := by decide +kernel
theorem dX5_greatestPush_1 : decode cX5_greatestPush 1 = .ok (.lconst 1, 1) := by decide +kernel
theorem dX5_greatestPush_2 : decode cX5_greatestPush 2 = .ok (.lconst 1, 1) := by decide +kernel
theorem dX5_greatestPush_3 : decode cX5_greatestPush 3 = .ok (.invokevirtual 60, 3) := by decide +kernel
theorem dX5_greatestPush_6 : decode cX5_greatestPush 6 = .ok (.istore_n 2, 1) := by decide +kernel
theorem dX5_greatestPush_7 : decode cX5_greatestPush 7 = .ok (.iload_n 2, 1) := by decide +kernel
theorem dX5_greatestPush_8 : decode cX5_greatestPush 8 = .ok (.ifCond .ne 5, 3) := by decide +kernel
theorem dX5_greatestPush_11 : decode cX5_greatestPush 11 = .ok (.iconst 0, 1) := by decide +kernel
theorem dX5_greatestPush_12 : decode cX5_greatestPush 12 = .ok (.ireturn, 1) := by decide +kernel
theorem dX5_greatestPush_13 : decode cX5_greatestPush 13 = .ok (.aload_n 1, 1) := by decide +kernel
theorem dX5_greatestPush_14 : decode cX5_greatestPush 14 = .ok (.aload_n 0, 1) := by decide +kernel
theorem dX5_greatestPush_15 : decode cX5_greatestPush 15 = .ok (.getfield 9, 3) := by decide +kernel
theorem dX5_greatestPush_18 : decode cX5_greatestPush 18 = .ok (.iload_n 2, 1) := by decide +kernel
theorem dX5_greatestPush_19 : decode cX5_greatestPush 19 = .ok (.laload, 1) := by decide +kernel
theorem dX5_greatestPush_20 : decode cX5_greatestPush 20 = .ok (.aload_n 0, 1) := by decide +kernel
theorem dX5_greatestPush_21 : decode cX5_greatestPush 21 = .ok (.getfield 13, 3) := by decide +kernel
theorem dX5_greatestPush_24 : decode cX5_greatestPush 24 = .ok (.iload_n 2, 1) := by decide +kernel
theorem dX5_greatestPush_25 : decode cX5_greatestPush 25 = .ok (.laload, 1) := by decide +kernel
theorem dX5_greatestPush_26 : decode cX5_greatestPush 26 = .ok (.ladd, 1) := by decide +kernel
theorem dX5_greatestPush_27 : decode cX5_greatestPush 27 = .ok (.ldc2_w 67, 3) := by decide +kernel
theorem dX5_greatestPush_30 : decode cX5_greatestPush 30 = .ok (.aload_n 0, 1) := by decide +kernel
theorem dX5_greatestPush_31 : decode cX5_greatestPush 31 = .ok (.getfield 16, 3) := by decide +kernel
theorem dX5_greatestPush_34 : decode cX5_greatestPush 34 = .ok (.iload_n 2, 1) := by decide +kernel
theorem dX5_greatestPush_35 : decode cX5_greatestPush 35 = .ok (.laload, 1) := by decide +kernel
theorem dX5_greatestPush_36 : decode cX5_greatestPush 36 = .ok (.lmul, 1) := by decide +kernel
theorem dX5_greatestPush_37 : decode cX5_greatestPush 37 = .ok (.invokevirtual 69, 3) := by decide +kernel
theorem dX5_greatestPush_40 : decode cX5_greatestPush 40 = .ok (.iconst 1, 1) := by decide +kernel
theorem dX5_greatestPush_41 : decode cX5_greatestPush 41 = .ok (.ireturn, 1) := by decide +kernel
theorem dX5_leastPush_0 : decode cX5_leastPush 0 = .ok (.aload_n 0, 1) := by decide +kernel
theorem dX5_leastPush_1 : decode cX5_leastPush 1 = .ok (.lconst 1, 1) := by decide +kernel
theorem dX5_leastPush_2 : decode cX5_leastPush 2 = .ok (.lconst 1, 1) := by decide +kernel
theorem dX5_leastPush_3 : decode cX5_leastPush 3 = .ok (.invokevirtual 56, 3) := by decide +kernel
theorem dX5_leastPush_6 : decode cX5_leastPush 6 = .ok (.istore_n 2, 1) := by decide +kernel
theorem dX5_leastPush_7 : decode cX5_leastPush 7 = .ok (.iload_n 2, 1) := by decide +kernel
theorem dX5_leastPush_8 : decode cX5_leastPush 8 = .ok (.ifCond .ne 5, 3) := by decide +kernel
theorem dX5_leastPush_11 : decode cX5_leastPush 11 = .ok (.iconst 0, 1) := by decide +kernel
theorem dX5_leastPush_12 : decode cX5_leastPush 12 = .ok (.ireturn, 1) := by decide +kernel
theorem dX5_leastPush_13 : decode cX5_leastPush 13 = .ok (.aload_n 1, 1) := by decide +kernel
theorem dX5_leastPush_14 : decode cX5_leastPush 14 = .ok (.aload_n 0, 1) := by decide +kernel
theorem dX5_leastPush_15 : decode cX5_leastPush 15 = .ok (.getfield 9, 3) := by decide +kernel
theorem dX5_leastPush_18 : decode cX5_leastPush 18 = .ok (.iload_n 2, 1) := by decide +kernel
theorem dX5_leastPush_19 : decode cX5_leastPush 19 = .ok (.laload, 1) := by decide +kernel
theorem dX5_leastPush_20 : decode cX5_leastPush 20 = .ok (.aload_n 0, 1) := by decide +kernel
theorem dX5_leastPush_21 : decode cX5_leastPush 21 = .ok (.getfield 13, 3) := by decide +kernel
theorem dX5_leastPush_24 : decode cX5_leastPush 24 = .ok (.iload_n 2, 1) := by decide +kernel
theorem dX5_leastPush_25 : decode cX5_leastPush 25 = .ok (.laload, 1) := by decide +kernel
theorem dX5_leastPush_26 : decode cX5_leastPush 26 = .ok (.lsub, 1) := by decide +kernel
theorem dX5_leastPush_27 : decode cX5_leastPush 27 = .ok (.ldc2_w 67, 3) := by decide +kernel
theorem dX5_leastPush_30 : decode cX5_leastPush 30 = .ok (.aload_n 0, 1) := by decide +kernel
theorem dX5_leastPush_31 : decode cX5_leastPush 31 = .ok (.getfield 16, 3) := by decide +kernel
theorem dX5_leastPush_34 : decode cX5_leastPush 34 = .ok (.iload_n 2, 1) := by decide +kernel
theorem dX5_leastPush_35 : decode cX5_leastPush 35 = .ok (.laload, 1) := by decide +kernel
theorem dX5_leastPush_36 : decode cX5_leastPush 36 = .ok (.lmul, 1) := by decide +kernel
theorem dX5_leastPush_37 : decode cX5_leastPush 37 = .ok (.invokevirtual 69, 3) := by decide +kernel
theorem dX5_leastPush_40 : decode cX5_leastPush 40 = .ok (.iconst 1, 1) := by decide +kernel
theorem dX5_leastPush_41 : decode cX5_leastPush 41 = .ok (.ireturn, 1) := by decide +kernel
theorem dX5_leastFactor_0 : decode cX5_leastFactor 0 = .ok (.aload_n 0, 1) := by decide +kernel
theorem dX5_leastFactor_1 : decode cX5_leastFactor 1 = .ok (.aload_n 1, 1) := by decide +kernel
theorem dX5_leastFactor_2 : decode cX5_leastFactor 2 = .ok (.invokevirtual 75, 3) := by decide +kernel
theorem dX5_leastFactor_5 : decode cX5_leastFactor 5 = .ok (.ifCond .ne 5, 3) := by decide +kernel
theorem dX5_leastFactor_8 : decode cX5_leastFactor 8 = .ok (.iconst 0, 1) := by decide +kernel
theorem dX5_leastFactor_9 : decode cX5_leastFactor 9 = .ok (.ireturn, 1) := by decide +kernel
theorem dX5_leastFactor_10 : decode cX5_leastFactor 10 = .ok (.iconst 0, 1) := by decide +kernel
theorem dX5_leastFactor_11 : decode cX5_leastFactor 11 = .ok (.istore_n 2, 1) := by decide +kernel
theorem dX5_leastFactor_12 : decode cX5_leastFactor 12 = .ok (.iload_n 2, 1) := by decide +kernel
theorem dX5_leastFactor_13 : decode cX5_leastFactor 13 = .ok (.sipush 1260, 3) := by decide +kernel
theorem dX5_leastFactor_16 : decode cX5_leastFactor 16 = .ok (.if_icmp .gt 131, 3) := by decide +kernel
theorem dX5_leastFactor_19 : decode cX5_leastFactor 19 = .ok (.aload_n 0, 1) := by decide +kernel
theorem dX5_leastFactor_20 : decode cX5_leastFactor 20 = .ok (.aload_n 1, 1) := by decide +kernel
theorem dX5_leastFactor_21 : decode cX5_leastFactor 21 = .ok (.getfield 79, 3) := by decide +kernel
theorem dX5_leastFactor_24 : decode cX5_leastFactor 24 = .ok (.aload_n 1, 1) := by decide +kernel
theorem dX5_leastFactor_25 : decode cX5_leastFactor 25 = .ok (.getfield 83, 3) := by decide +kernel
theorem dX5_leastFactor_28 : decode cX5_leastFactor 28 = .ok (.invokevirtual 56, 3) := by decide +kernel
theorem dX5_leastFactor_31 : decode cX5_leastFactor 31 = .ok (.istore_n 3, 1) := by decide +kernel
theorem dX5_leastFactor_32 : decode cX5_leastFactor 32 = .ok (.aload_n 0, 1) := by decide +kernel
theorem dX5_leastFactor_33 : decode cX5_leastFactor 33 = .ok (.aload_n 1, 1) := by decide +kernel
theorem dX5_leastFactor_34 : decode cX5_leastFactor 34 = .ok (.getfield 79, 3) := by decide +kernel
theorem dX5_leastFactor_37 : decode cX5_leastFactor 37 = .ok (.aload_n 1, 1) := by decide +kernel
theorem dX5_leastFactor_38 : decode cX5_leastFactor 38 = .ok (.getfield 83, 3) := by decide +kernel
theorem dX5_leastFactor_41 : decode cX5_leastFactor 41 = .ok (.invokevirtual 60, 3) := by decide +kernel
theorem dX5_leastFactor_44 : decode cX5_leastFactor 44 = .ok (.istore 4, 2) := by decide +kernel
theorem dX5_leastFactor_46 : decode cX5_leastFactor 46 = .ok (.aload_n 0, 1) := by decide +kernel
theorem dX5_leastFactor_47 : decode cX5_leastFactor 47 = .ok (.iload_n 3, 1) := by decide +kernel
theorem dX5_leastFactor_48 : decode cX5_leastFactor 48 = .ok (.iload 4, 2) := by decide +kernel
theorem dX5_leastFactor_50 : decode cX5_leastFactor 50 = .ok (.aload_n 1, 1) := by decide +kernel
theorem dX5_leastFactor_51 : decode cX5_leastFactor 51 = .ok (.getfield 79, 3) := by decide +kernel
theorem dX5_leastFactor_54 : decode cX5_leastFactor 54 = .ok (.aload_n 1, 1) := by decide +kernel
theorem dX5_leastFactor_55 : decode cX5_leastFactor 55 = .ok (.getfield 83, 3) := by decide +kernel
theorem dX5_leastFactor_58 : decode cX5_leastFactor 58 = .ok (.invokevirtual 63, 3) := by decide +kernel
theorem dX5_leastFactor_61 : decode cX5_leastFactor 61 = .ok (.ifCond .ne 5, 3) := by decide +kernel
theorem dX5_leastFactor_64 : decode cX5_leastFactor 64 = .ok (.iconst 1, 1) := by decide +kernel
theorem dX5_leastFactor_65 : decode cX5_leastFactor 65 = .ok (.ireturn, 1) := by decide +kernel
theorem dX5_leastFactor_66 : decode cX5_leastFactor 66 = .ok (.aload_n 0, 1) := by decide +kernel
theorem dX5_leastFactor_67 : decode cX5_leastFactor 67 = .ok (.getfield 13, 3) := by decide +kernel
theorem dX5_leastFactor_70 : decode cX5_leastFactor 70 = .ok (.iload 4, 2) := by decide +kernel
theorem dX5_leastFactor_72 : decode cX5_leastFactor 72 = .ok (.laload, 1) := by decide +kernel
theorem dX5_leastFactor_73 : decode cX5_leastFactor 73 = .ok (.aload_n 0, 1) := by decide +kernel
theorem dX5_leastFactor_74 : decode cX5_leastFactor 74 = .ok (.getfield 16, 3) := by decide +kernel
theorem dX5_leastFactor_77 : decode cX5_leastFactor 77 = .ok (.iload_n 3, 1) := by decide +kernel
theorem dX5_leastFactor_78 : decode cX5_leastFactor 78 = .ok (.laload, 1) := by decide +kernel
theorem dX5_leastFactor_79 : decode cX5_leastFactor 79 = .ok (.lmul, 1) := by decide +kernel
theorem dX5_leastFactor_80 : decode cX5_leastFactor 80 = .ok (.aload_n 0, 1) := by decide +kernel
theorem dX5_leastFactor_81 : decode cX5_leastFactor 81 = .ok (.getfield 13, 3) := by decide +kernel
theorem dX5_leastFactor_84 : decode cX5_leastFactor 84 = .ok (.iload_n 3, 1) := by decide +kernel
theorem dX5_leastFactor_85 : decode cX5_leastFactor 85 = .ok (.laload, 1) := by decide +kernel
theorem dX5_leastFactor_86 : decode cX5_leastFactor 86 = .ok (.aload_n 0, 1) := by decide +kernel
theorem dX5_leastFactor_87 : decode cX5_leastFactor 87 = .ok (.getfield 16, 3) := by decide +kernel
theorem dX5_leastFactor_90 : decode cX5_leastFactor 90 = .ok (.iload 4, 2) := by decide +kernel
theorem dX5_leastFactor_92 : decode cX5_leastFactor 92 = .ok (.laload, 1) := by decide +kernel
theorem dX5_leastFactor_93 : decode cX5_leastFactor 93 = .ok (.lmul, 1) := by decide +kernel
theorem dX5_leastFactor_94 : decode cX5_leastFactor 94 = .ok (.ladd, 1) := by decide +kernel
theorem dX5_leastFactor_95 : decode cX5_leastFactor 95 = .ok (.lstore 5, 2) := by decide +kernel
theorem dX5_leastFactor_97 : decode cX5_leastFactor 97 = .ok (.lload 5, 2) := by decide +kernel
theorem dX5_leastFactor_99 : decode cX5_leastFactor 99 = .ok (.lconst 0, 1) := by decide +kernel
theorem dX5_leastFactor_100 : decode cX5_leastFactor 100 = .ok (.lcmp, 1) := by decide +kernel
theorem dX5_leastFactor_101 : decode cX5_leastFactor 101 = .ok (.ifCond .ne 5, 3) := by decide +kernel
theorem dX5_leastFactor_104 : decode cX5_leastFactor 104 = .ok (.iconst 0, 1) := by decide +kernel
theorem dX5_leastFactor_105 : decode cX5_leastFactor 105 = .ok (.ireturn, 1) := by decide +kernel
theorem dX5_leastFactor_106 : decode cX5_leastFactor 106 = .ok (.aload_n 1, 1) := by decide +kernel
theorem dX5_leastFactor_107 : decode cX5_leastFactor 107 = .ok (.aload_n 0, 1) := by decide +kernel
theorem dX5_leastFactor_108 : decode cX5_leastFactor 108 = .ok (.getfield 9, 3) := by decide +kernel
theorem dX5_leastFactor_111 : decode cX5_leastFactor 111 = .ok (.iload_n 3, 1) := by decide +kernel
theorem dX5_leastFactor_112 : decode cX5_leastFactor 112 = .ok (.laload, 1) := by decide +kernel
theorem dX5_leastFactor_113 : decode cX5_leastFactor 113 = .ok (.aload_n 0, 1) := by decide +kernel
theorem dX5_leastFactor_114 : decode cX5_leastFactor 114 = .ok (.getfield 16, 3) := by decide +kernel
theorem dX5_leastFactor_117 : decode cX5_leastFactor 117 = .ok (.iload 4, 2) := by decide +kernel
theorem dX5_leastFactor_119 : decode cX5_leastFactor 119 = .ok (.laload, 1) := by decide +kernel
theorem dX5_leastFactor_120 : decode cX5_leastFactor 120 = .ok (.lmul, 1) := by decide +kernel
theorem dX5_leastFactor_121 : decode cX5_leastFactor 121 = .ok (.aload_n 0, 1) := by decide +kernel
theorem dX5_leastFactor_122 : decode cX5_leastFactor 122 = .ok (.getfield 9, 3) := by decide +kernel
theorem dX5_leastFactor_125 : decode cX5_leastFactor 125 = .ok (.iload 4, 2) := by decide +kernel
theorem dX5_leastFactor_127 : decode cX5_leastFactor 127 = .ok (.laload, 1) := by decide +kernel
theorem dX5_leastFactor_128 : decode cX5_leastFactor 128 = .ok (.aload_n 0, 1) := by decide +kernel
theorem dX5_leastFactor_129 : decode cX5_leastFactor 129 = .ok (.getfield 16, 3) := by decide +kernel
theorem dX5_leastFactor_132 : decode cX5_leastFactor 132 = .ok (.iload_n 3, 1) := by decide +kernel
theorem dX5_leastFactor_133 : decode cX5_leastFactor 133 = .ok (.laload, 1) := by decide +kernel
theorem dX5_leastFactor_134 : decode cX5_leastFactor 134 = .ok (.lmul, 1) := by decide +kernel
theorem dX5_leastFactor_135 : decode cX5_leastFactor 135 = .ok (.lsub, 1) := by decide +kernel
theorem dX5_leastFactor_136 : decode cX5_leastFactor 136 = .ok (.lload 5, 2) := by decide +kernel
theorem dX5_leastFactor_138 : decode cX5_leastFactor 138 = .ok (.invokevirtual 69, 3) := by decide +kernel
theorem dX5_leastFactor_141 : decode cX5_leastFactor 141 = .ok (.iinc 2 1, 3) := by decide +kernel
theorem dX5_leastFactor_144 : decode cX5_leastFactor 144 = .ok (.goto (-132), 3) := by decide +kernel
theorem dX5_leastFactor_147 : decode cX5_leastFactor 147 = .ok (.iconst 0, 1) := by decide +kernel
theorem dX5_leastFactor_148 : decode cX5_leastFactor 148 = .ok (.ireturn, 1) := by decide +kernel
theorem dX5_straightFactor_0 : decode cX5_straightFactor 0 = .ok (.aload_n 1, 1) := by decide +kernel
theorem dX5_straightFactor_1 : decode cX5_straightFactor 1 = .ok (.lconst 0, 1) := by decide +kernel
theorem dX5_straightFactor_2 : decode cX5_straightFactor 2 = .ok (.lconst 1, 1) := by decide +kernel
theorem dX5_straightFactor_3 : decode cX5_straightFactor 3 = .ok (.invokevirtual 69, 3) := by decide +kernel
theorem dX5_straightFactor_6 : decode cX5_straightFactor 6 = .ok (.iconst 1, 1) := by decide +kernel
theorem dX5_straightFactor_7 : decode cX5_straightFactor 7 = .ok (.istore_n 2, 1) := by decide +kernel
theorem dX5_straightFactor_8 : decode cX5_straightFactor 8 = .ok (.iload_n 2, 1) := by decide +kernel
theorem dX5_straightFactor_9 : decode cX5_straightFactor 9 = .ok (.aload_n 0, 1) := by decide +kernel
theorem dX5_straightFactor_10 : decode cX5_straightFactor 10 = .ok (.getfield 29, 3) := by decide +kernel
theorem dX5_straightFactor_13 : decode cX5_straightFactor 13 = .ok (.if_icmp .gt 81, 3) := by decide +kernel
theorem dX5_straightFactor_16 : decode cX5_straightFactor 16 = .ok (.aload_n 0, 1) := by decide +kernel
theorem dX5_straightFactor_17 : decode cX5_straightFactor 17 = .ok (.getfield 9, 3) := by decide +kernel
theorem dX5_straightFactor_20 : decode cX5_straightFactor 20 = .ok (.iload_n 2, 1) := by decide +kernel
theorem dX5_straightFactor_21 : decode cX5_straightFactor 21 = .ok (.laload, 1) := by decide +kernel
theorem dX5_straightFactor_22 : decode cX5_straightFactor 22 = .ok (.invokestatic 50, 3) := by decide +kernel
theorem dX5_straightFactor_25 : decode cX5_straightFactor 25 = .ok (.lstore_n 3, 1) := by decide +kernel
theorem dX5_straightFactor_26 : decode cX5_straightFactor 26 = .ok (.aload_n 0, 1) := by decide +kernel
theorem dX5_straightFactor_27 : decode cX5_straightFactor 27 = .ok (.getfield 16, 3) := by decide +kernel
theorem dX5_straightFactor_30 : decode cX5_straightFactor 30 = .ok (.iload_n 2, 1) := by decide +kernel
theorem dX5_straightFactor_31 : decode cX5_straightFactor 31 = .ok (.laload, 1) := by decide +kernel
theorem dX5_straightFactor_32 : decode cX5_straightFactor 32 = .ok (.lconst 0, 1) := by decide +kernel
theorem dX5_straightFactor_33 : decode cX5_straightFactor 33 = .ok (.lcmp, 1) := by decide +kernel
theorem dX5_straightFactor_34 : decode cX5_straightFactor 34 = .ok (.ifCond .ne 54, 3) := by decide +kernel
theorem dX5_straightFactor_37 : decode cX5_straightFactor 37 = .ok (.lload_n 3, 1) := by decide +kernel
theorem dX5_straightFactor_38 : decode cX5_straightFactor 38 = .ok (.lconst 0, 1) := by decide +kernel
theorem dX5_straightFactor_39 : decode cX5_straightFactor 39 = .ok (.lcmp, 1) := by decide +kernel
theorem dX5_straightFactor_40 : decode cX5_straightFactor 40 = .ok (.ifCond .le 48, 3) := by decide +kernel
theorem dX5_straightFactor_43 : decode cX5_straightFactor 43 = .ok (.aload_n 0, 1) := by decide +kernel
theorem dX5_straightFactor_44 : decode cX5_straightFactor 44 = .ok (.getfield 13, 3) := by decide +kernel
theorem dX5_straightFactor_47 : decode cX5_straightFactor 47 = .ok (.iload_n 2, 1) := by decide +kernel
theorem dX5_straightFactor_48 : decode cX5_straightFactor 48 = .ok (.laload, 1) := by decide +kernel
theorem dX5_straightFactor_49 : decode cX5_straightFactor 49 = .ok (.lconst 0, 1) := by decide +kernel
theorem dX5_straightFactor_50 : decode cX5_straightFactor 50 = .ok (.lcmp, 1) := by decide +kernel
theorem dX5_straightFactor_51 : decode cX5_straightFactor 51 = .ok (.ifCond .ne 5, 3) := by decide +kernel
theorem dX5_straightFactor_54 : decode cX5_straightFactor 54 = .ok (.iconst 0, 1) := by decide +kernel
theorem dX5_straightFactor_55 : decode cX5_straightFactor 55 = .ok (.ireturn, 1) := by decide +kernel
theorem dX5_straightFactor_56 : decode cX5_straightFactor 56 = .ok (.lload_n 3, 1) := by decide +kernel
theorem dX5_straightFactor_57 : decode cX5_straightFactor 57 = .ok (.aload_n 1, 1) := by decide +kernel
theorem dX5_straightFactor_58 : decode cX5_straightFactor 58 = .ok (.getfield 83, 3) := by decide +kernel
theorem dX5_straightFactor_61 : decode cX5_straightFactor 61 = .ok (.lmul, 1) := by decide +kernel
theorem dX5_straightFactor_62 : decode cX5_straightFactor 62 = .ok (.aload_n 0, 1) := by decide +kernel
theorem dX5_straightFactor_63 : decode cX5_straightFactor 63 = .ok (.getfield 13, 3) := by decide +kernel
theorem dX5_straightFactor_66 : decode cX5_straightFactor 66 = .ok (.iload_n 2, 1) := by decide +kernel
theorem dX5_straightFactor_67 : decode cX5_straightFactor 67 = .ok (.laload, 1) := by decide +kernel
theorem dX5_straightFactor_68 : decode cX5_straightFactor 68 = .ok (.aload_n 1, 1) := by decide +kernel
theorem dX5_straightFactor_69 : decode cX5_straightFactor 69 = .ok (.getfield 79, 3) := by decide +kernel
theorem dX5_straightFactor_72 : decode cX5_straightFactor 72 = .ok (.lmul, 1) := by decide +kernel
theorem dX5_straightFactor_73 : decode cX5_straightFactor 73 = .ok (.lcmp, 1) := by decide +kernel
theorem dX5_straightFactor_74 : decode cX5_straightFactor 74 = .ok (.ifCond .le 14, 3) := by decide +kernel
theorem dX5_straightFactor_77 : decode cX5_straightFactor 77 = .ok (.aload_n 1, 1) := by decide +kernel
theorem dX5_straightFactor_78 : decode cX5_straightFactor 78 = .ok (.lload_n 3, 1) := by decide +kernel
theorem dX5_straightFactor_79 : decode cX5_straightFactor 79 = .ok (.aload_n 0, 1) := by decide +kernel
theorem dX5_straightFactor_80 : decode cX5_straightFactor 80 = .ok (.getfield 13, 3) := by decide +kernel
theorem dX5_straightFactor_83 : decode cX5_straightFactor 83 = .ok (.iload_n 2, 1) := by decide +kernel
theorem dX5_straightFactor_84 : decode cX5_straightFactor 84 = .ok (.laload, 1) := by decide +kernel
theorem dX5_straightFactor_85 : decode cX5_straightFactor 85 = .ok (.invokevirtual 69, 3) := by decide +kernel
theorem dX5_straightFactor_88 : decode cX5_straightFactor 88 = .ok (.iinc 2 1, 3) := by decide +kernel
theorem dX5_straightFactor_91 : decode cX5_straightFactor 91 = .ok (.goto (-83), 3) := by decide +kernel
theorem dX5_straightFactor_94 : decode cX5_straightFactor 94 = .ok (.iconst 1, 1) := by decide +kernel
theorem dX5_straightFactor_95 : decode cX5_straightFactor 95 = .ok (.ireturn, 1) := by decide +kernel
theorem dX5_least_0 : decode cX5_least 0 = .ok (.aload_n 0, 1) := by decide +kernel
theorem dX5_least_1 : decode cX5_least 1 = .ok (.getfield 9, 3) := by decide +kernel
theorem dX5_least_4 : decode cX5_least 4 = .ok (.iload_n 1, 1) := by decide +kernel
theorem dX5_least_5 : decode cX5_least 5 = .ok (.laload, 1) := by decide +kernel
theorem dX5_least_6 : decode cX5_least 6 = .ok (.lload 4, 2) := by decide +kernel
theorem dX5_least_8 : decode cX5_least 8 = .ok (.lmul, 1) := by decide +kernel
theorem dX5_least_9 : decode cX5_least 9 = .ok (.aload_n 0, 1) := by decide +kernel
theorem dX5_least_10 : decode cX5_least 10 = .ok (.getfield 13, 3) := by decide +kernel
theorem dX5_least_13 : decode cX5_least 13 = .ok (.iload_n 1, 1) := by decide +kernel
theorem dX5_least_14 : decode cX5_least 14 = .ok (.laload, 1) := by decide +kernel
theorem dX5_least_15 : decode cX5_least 15 = .ok (.lload_n 2, 1) := by decide +kernel
theorem dX5_least_16 : decode cX5_least 16 = .ok (.lmul, 1) := by decide +kernel
theorem dX5_least_17 : decode cX5_least 17 = .ok (.lsub, 1) := by decide +kernel
theorem dX5_least_18 : decode cX5_least 18 = .ok (.lreturn, 1) := by decide +kernel
theorem dX5_most_0 : decode cX5_most 0 = .ok (.aload_n 0, 1) := by decide +kernel
theorem dX5_most_1 : decode cX5_most 1 = .ok (.getfield 9, 3) := by decide +kernel
theorem dX5_most_4 : decode cX5_most 4 = .ok (.iload_n 1, 1) := by decide +kernel
theorem dX5_most_5 : decode cX5_most 5 = .ok (.laload, 1) := by decide +kernel
theorem dX5_most_6 : decode cX5_most 6 = .ok (.lload 4, 2) := by decide +kernel
theorem dX5_most_8 : decode cX5_most 8 = .ok (.lmul, 1) := by decide +kernel
theorem dX5_most_9 : decode cX5_most 9 = .ok (.aload_n 0, 1) := by decide +kernel
theorem dX5_most_10 : decode cX5_most 10 = .ok (.getfield 13, 3) := by decide +kernel
theorem dX5_most_13 : decode cX5_most 13 = .ok (.iload_n 1, 1) := by decide +kernel
theorem dX5_most_14 : decode cX5_most 14 = .ok (.laload, 1) := by decide +kernel
theorem dX5_most_15 : decode cX5_most 15 = .ok (.lload_n 2, 1) := by decide +kernel
theorem dX5_most_16 : decode cX5_most 16 = .ok (.lmul, 1) := by decide +kernel
theorem dX5_most_17 : decode cX5_most 17 = .ok (.ladd, 1) := by decide +kernel
theorem dX5_most_18 : decode cX5_most 18 = .ok (.lreturn, 1) := by decide +kernel
theorem dX5_tightestLeast_0 : decode cX5_tightestLeast 0 = .ok (.iconst 0, 1) := by decide +kernel
theorem dX5_tightestLeast_1 : decode cX5_tightestLeast 1 = .ok (.istore 5, 2) := by decide +kernel
theorem dX5_tightestLeast_3 : decode cX5_tightestLeast 3 = .ok (.iconst 1, 1) := by decide +kernel
theorem dX5_tightestLeast_4 : decode cX5_tightestLeast 4 = .ok (.istore 6, 2) := by decide +kernel
theorem dX5_tightestLeast_6 : decode cX5_tightestLeast 6 = .ok (.iload 6, 2) := by decide +kernel
theorem dX5_tightestLeast_8 : decode cX5_tightestLeast 8 = .ok (.aload_n 0, 1) := by decide +kernel
theorem dX5_tightestLeast_9 : decode cX5_tightestLeast 9 = .ok (.getfield 29, 3) := by decide +kernel
theorem dX5_tightestLeast_12 : decode cX5_tightestLeast 12 = .ok (.if_icmp .gt 61, 3) := by decide +kernel
theorem dX5_tightestLeast_15 : decode cX5_tightestLeast 15 = .ok (.aload_n 0, 1) := by decide +kernel
theorem dX5_tightestLeast_16 : decode cX5_tightestLeast 16 = .ok (.getfield 16, 3) := by decide +kernel
theorem dX5_tightestLeast_19 : decode cX5_tightestLeast 19 = .ok (.iload 6, 2) := by decide +kernel
theorem dX5_tightestLeast_21 : decode cX5_tightestLeast 21 = .ok (.laload, 1) := by decide +kernel
theorem dX5_tightestLeast_22 : decode cX5_tightestLeast 22 = .ok (.lconst 0, 1) := by decide +kernel
theorem dX5_tightestLeast_23 : decode cX5_tightestLeast 23 = .ok (.lcmp, 1) := by decide +kernel
theorem dX5_tightestLeast_24 : decode cX5_tightestLeast 24 = .ok (.ifCond .le 43, 3) := by decide +kernel
theorem dX5_tightestLeast_27 : decode cX5_tightestLeast 27 = .ok (.aload_n 0, 1) := by decide +kernel
theorem dX5_tightestLeast_28 : decode cX5_tightestLeast 28 = .ok (.iload 6, 2) := by decide +kernel
theorem dX5_tightestLeast_30 : decode cX5_tightestLeast 30 = .ok (.lload_n 1, 1) := by decide +kernel
theorem dX5_tightestLeast_31 : decode cX5_tightestLeast 31 = .ok (.lload_n 3, 1) := by decide +kernel
theorem dX5_tightestLeast_32 : decode cX5_tightestLeast 32 = .ok (.invokevirtual 86, 3) := by decide +kernel
theorem dX5_tightestLeast_35 : decode cX5_tightestLeast 35 = .ok (.aload_n 0, 1) := by decide +kernel
theorem dX5_tightestLeast_36 : decode cX5_tightestLeast 36 = .ok (.getfield 16, 3) := by decide +kernel
theorem dX5_tightestLeast_39 : decode cX5_tightestLeast 39 = .ok (.iload 5, 2) := by decide +kernel
theorem dX5_tightestLeast_41 : decode cX5_tightestLeast 41 = .ok (.laload, 1) := by decide +kernel
theorem dX5_tightestLeast_42 : decode cX5_tightestLeast 42 = .ok (.lmul, 1) := by decide +kernel
theorem dX5_tightestLeast_43 : decode cX5_tightestLeast 43 = .ok (.aload_n 0, 1) := by decide +kernel
theorem dX5_tightestLeast_44 : decode cX5_tightestLeast 44 = .ok (.iload 5, 2) := by decide +kernel
theorem dX5_tightestLeast_46 : decode cX5_tightestLeast 46 = .ok (.lload_n 1, 1) := by decide +kernel
theorem dX5_tightestLeast_47 : decode cX5_tightestLeast 47 = .ok (.lload_n 3, 1) := by decide +kernel
theorem dX5_tightestLeast_48 : decode cX5_tightestLeast 48 = .ok (.invokevirtual 86, 3) := by decide +kernel
theorem dX5_tightestLeast_51 : decode cX5_tightestLeast 51 = .ok (.aload_n 0, 1) := by decide +kernel
theorem dX5_tightestLeast_52 : decode cX5_tightestLeast 52 = .ok (.getfield 16, 3) := by decide +kernel
theorem dX5_tightestLeast_55 : decode cX5_tightestLeast 55 = .ok (.iload 6, 2) := by decide +kernel
theorem dX5_tightestLeast_57 : decode cX5_tightestLeast 57 = .ok (.laload, 1) := by decide +kernel
theorem dX5_tightestLeast_58 : decode cX5_tightestLeast 58 = .ok (.lmul, 1) := by decide +kernel
theorem dX5_tightestLeast_59 : decode cX5_tightestLeast 59 = .ok (.lcmp, 1) := by decide +kernel
theorem dX5_tightestLeast_60 : decode cX5_tightestLeast 60 = .ok (.ifCond .le 7, 3) := by decide +kernel
theorem dX5_tightestLeast_63 : decode cX5_tightestLeast 63 = .ok (.iload 6, 2) := by decide +kernel
theorem dX5_tightestLeast_65 : decode cX5_tightestLeast 65 = .ok (.istore 5, 2) := by decide +kernel
theorem dX5_tightestLeast_67 : decode cX5_tightestLeast 67 = .ok (.iinc 6 1, 3) := by decide +kernel
theorem dX5_tightestLeast_70 : decode cX5_tightestLeast 70 = .ok (.goto (-64), 3) := by decide +kernel
theorem dX5_tightestLeast_73 : decode cX5_tightestLeast 73 = .ok (.iload 5, 2) := by decide +kernel
theorem dX5_tightestLeast_75 : decode cX5_tightestLeast 75 = .ok (.ireturn, 1) := by decide +kernel
theorem dX5_tightestMost_0 : decode cX5_tightestMost 0 = .ok (.iconst 0, 1) := by decide +kernel
theorem dX5_tightestMost_1 : decode cX5_tightestMost 1 = .ok (.istore 5, 2) := by decide +kernel
theorem dX5_tightestMost_3 : decode cX5_tightestMost 3 = .ok (.iconst 1, 1) := by decide +kernel
theorem dX5_tightestMost_4 : decode cX5_tightestMost 4 = .ok (.istore 6, 2) := by decide +kernel
theorem dX5_tightestMost_6 : decode cX5_tightestMost 6 = .ok (.iload 6, 2) := by decide +kernel
theorem dX5_tightestMost_8 : decode cX5_tightestMost 8 = .ok (.aload_n 0, 1) := by decide +kernel
theorem dX5_tightestMost_9 : decode cX5_tightestMost 9 = .ok (.getfield 29, 3) := by decide +kernel
theorem dX5_tightestMost_12 : decode cX5_tightestMost 12 = .ok (.if_icmp .gt 66, 3) := by decide +kernel
end
section
theorem dX5_tightestMost_15 : decode cX5_tightestMost 15 = .ok (.aload_n 0, 1) := by decide +kernel
theorem dX5_tightestMost_16 : decode cX5_tightestMost 16 = .ok (.getfield 16, 3) := by decide +kernel
theorem dX5_tightestMost_19 : decode cX5_tightestMost 19 = .ok (.iload 6, 2) := by decide +kernel
theorem dX5_tightestMost_21 : decode cX5_tightestMost 21 = .ok (.laload, 1) := by decide +kernel
theorem dX5_tightestMost_22 : decode cX5_tightestMost 22 = .ok (.lconst 0, 1) := by decide +kernel
theorem dX5_tightestMost_23 : decode cX5_tightestMost 23 = .ok (.lcmp, 1) := by decide +kernel
theorem dX5_tightestMost_24 : decode cX5_tightestMost 24 = .ok (.ifCond .le 48, 3) := by decide +kernel
theorem dX5_tightestMost_27 : decode cX5_tightestMost 27 = .ok (.iload 5, 2) := by decide +kernel
theorem dX5_tightestMost_29 : decode cX5_tightestMost 29 = .ok (.ifCond .eq 39, 3) := by decide +kernel
theorem dX5_tightestMost_32 : decode cX5_tightestMost 32 = .ok (.aload_n 0, 1) := by decide +kernel
theorem dX5_tightestMost_33 : decode cX5_tightestMost 33 = .ok (.iload 6, 2) := by decide +kernel
theorem dX5_tightestMost_35 : decode cX5_tightestMost 35 = .ok (.lload_n 1, 1) := by decide +kernel
theorem dX5_tightestMost_36 : decode cX5_tightestMost 36 = .ok (.lload_n 3, 1) := by decide +kernel
theorem dX5_tightestMost_37 : decode cX5_tightestMost 37 = .ok (.invokevirtual 90, 3) := by decide +kernel
theorem dX5_tightestMost_40 : decode cX5_tightestMost 40 = .ok (.aload_n 0, 1) := by decide +kernel
theorem dX5_tightestMost_41 : decode cX5_tightestMost 41 = .ok (.getfield 16, 3) := by decide +kernel
theorem dX5_tightestMost_44 : decode cX5_tightestMost 44 = .ok (.iload 5, 2) := by decide +kernel
theorem dX5_tightestMost_46 : decode cX5_tightestMost 46 = .ok (.laload, 1) := by decide +kernel
theorem dX5_tightestMost_47 : decode cX5_tightestMost 47 = .ok (.lmul, 1) := by decide +kernel
theorem dX5_tightestMost_48 : decode cX5_tightestMost 48 = .ok (.aload_n 0, 1) := by decide +kernel
theorem dX5_tightestMost_49 : decode cX5_tightestMost 49 = .ok (.iload 5, 2) := by decide +kernel
theorem dX5_tightestMost_51 : decode cX5_tightestMost 51 = .ok (.lload_n 1, 1) := by decide +kernel
theorem dX5_tightestMost_52 : decode cX5_tightestMost 52 = .ok (.lload_n 3, 1) := by decide +kernel
theorem dX5_tightestMost_53 : decode cX5_tightestMost 53 = .ok (.invokevirtual 90, 3) := by decide +kernel
theorem dX5_tightestMost_56 : decode cX5_tightestMost 56 = .ok (.aload_n 0, 1) := by decide +kernel
theorem dX5_tightestMost_57 : decode cX5_tightestMost 57 = .ok (.getfield 16, 3) := by decide +kernel
theorem dX5_tightestMost_60 : decode cX5_tightestMost 60 = .ok (.iload 6, 2) := by decide +kernel
theorem dX5_tightestMost_62 : decode cX5_tightestMost 62 = .ok (.laload, 1) := by decide +kernel
theorem dX5_tightestMost_63 : decode cX5_tightestMost 63 = .ok (.lmul, 1) := by decide +kernel
theorem dX5_tightestMost_64 : decode cX5_tightestMost 64 = .ok (.lcmp, 1) := by decide +kernel
theorem dX5_tightestMost_65 : decode cX5_tightestMost 65 = .ok (.ifCond .ge 7, 3) := by decide +kernel
theorem dX5_tightestMost_68 : decode cX5_tightestMost 68 = .ok (.iload 6, 2) := by decide +kernel
theorem dX5_tightestMost_70 : decode cX5_tightestMost 70 = .ok (.istore 5, 2) := by decide +kernel
theorem dX5_tightestMost_72 : decode cX5_tightestMost 72 = .ok (.iinc 6 1, 3) := by decide +kernel
theorem dX5_tightestMost_75 : decode cX5_tightestMost 75 = .ok (.goto (-69), 3) := by decide +kernel
theorem dX5_tightestMost_78 : decode cX5_tightestMost 78 = .ok (.iload 5, 2) := by decide +kernel
theorem dX5_tightestMost_80 : decode cX5_tightestMost 80 = .ok (.ireturn, 1) := by decide +kernel
theorem dX5_bars_0 : decode cX5_bars 0 = .ok (.iload_n 2, 1) := by decide +kernel
theorem dX5_bars_1 : decode cX5_bars 1 = .ok (.ifCond .eq 41, 3) := by decide +kernel
theorem dX5_bars_4 : decode cX5_bars 4 = .ok (.aload_n 0, 1) := by decide +kernel
theorem dX5_bars_5 : decode cX5_bars 5 = .ok (.iload_n 1, 1) := by decide +kernel
theorem dX5_bars_6 : decode cX5_bars 6 = .ok (.lload_n 3, 1) := by decide +kernel
theorem dX5_bars_7 : decode cX5_bars 7 = .ok (.lload 5, 2) := by decide +kernel
theorem dX5_bars_9 : decode cX5_bars 9 = .ok (.invokevirtual 86, 3) := by decide +kernel
theorem dX5_bars_12 : decode cX5_bars 12 = .ok (.aload_n 0, 1) := by decide +kernel
theorem dX5_bars_13 : decode cX5_bars 13 = .ok (.getfield 16, 3) := by decide +kernel
theorem dX5_bars_16 : decode cX5_bars 16 = .ok (.iload_n 2, 1) := by decide +kernel
theorem dX5_bars_17 : decode cX5_bars 17 = .ok (.laload, 1) := by decide +kernel
theorem dX5_bars_18 : decode cX5_bars 18 = .ok (.lmul, 1) := by decide +kernel
theorem dX5_bars_19 : decode cX5_bars 19 = .ok (.aload_n 0, 1) := by decide +kernel
theorem dX5_bars_20 : decode cX5_bars 20 = .ok (.iload_n 2, 1) := by decide +kernel
theorem dX5_bars_21 : decode cX5_bars 21 = .ok (.lload_n 3, 1) := by decide +kernel
theorem dX5_bars_22 : decode cX5_bars 22 = .ok (.lload 5, 2) := by decide +kernel
theorem dX5_bars_24 : decode cX5_bars 24 = .ok (.invokevirtual 90, 3) := by decide +kernel
theorem dX5_bars_27 : decode cX5_bars 27 = .ok (.aload_n 0, 1) := by decide +kernel
theorem dX5_bars_28 : decode cX5_bars 28 = .ok (.getfield 16, 3) := by decide +kernel
theorem dX5_bars_31 : decode cX5_bars 31 = .ok (.iload_n 1, 1) := by decide +kernel
theorem dX5_bars_32 : decode cX5_bars 32 = .ok (.laload, 1) := by decide +kernel
theorem dX5_bars_33 : decode cX5_bars 33 = .ok (.lmul, 1) := by decide +kernel
theorem dX5_bars_34 : decode cX5_bars 34 = .ok (.lcmp, 1) := by decide +kernel
theorem dX5_bars_35 : decode cX5_bars 35 = .ok (.ifCond .le 7, 3) := by decide +kernel
theorem dX5_bars_38 : decode cX5_bars 38 = .ok (.iconst 1, 1) := by decide +kernel
theorem dX5_bars_39 : decode cX5_bars 39 = .ok (.goto 4, 3) := by decide +kernel
theorem dX5_bars_42 : decode cX5_bars 42 = .ok (.iconst 0, 1) := by decide +kernel
theorem dX5_bars_43 : decode cX5_bars 43 = .ok (.ireturn, 1) := by decide +kernel
theorem dX6_init_0 : decode cX6_init 0 = .ok (.aload_n 0, 1) := by decide +kernel
theorem dX6_init_1 : decode cX6_init 1 = .ok (.invokespecial 3, 3) := by decide +kernel
theorem dX6_init_4 : decode cX6_init 4 = .ok (.aload_n 0, 1) := by decide +kernel
theorem dX6_init_5 : decode cX6_init 5 = .ok (.new 9, 3) := by decide +kernel
theorem dX6_init_8 : decode cX6_init 8 = .ok (.dup, 1) := by decide +kernel
theorem dX6_init_9 : decode cX6_init 9 = .ok (.invokespecial 11, 3) := by decide +kernel
theorem dX6_init_12 : decode cX6_init 12 = .ok (.putfield 12, 3) := by decide +kernel
theorem dX6_init_15 : decode cX6_init 15 = .ok (.aload_n 0, 1) := by decide +kernel
theorem dX6_init_16 : decode cX6_init 16 = .ok (.new 16, 3) := by decide +kernel
theorem dX6_init_19 : decode cX6_init 19 = .ok (.dup, 1) := by decide +kernel
theorem dX6_init_20 : decode cX6_init 20 = .ok (.aload_n 0, 1) := by decide +kernel
theorem dX6_init_21 : decode cX6_init 21 = .ok (.getfield 12, 3) := by decide +kernel
theorem dX6_init_24 : decode cX6_init 24 = .ok (.invokespecial 18, 3) := by decide +kernel
theorem dX6_init_27 : decode cX6_init 27 = .ok (.putfield 21, 3) := by decide +kernel
theorem dX6_init_30 : decode cX6_init 30 = .ok (.aload_n 0, 1) := by decide +kernel
theorem dX6_init_31 : decode cX6_init 31 = .ok (.new 25, 3) := by decide +kernel
theorem dX6_init_34 : decode cX6_init 34 = .ok (.dup, 1) := by decide +kernel
theorem dX6_init_35 : decode cX6_init 35 = .ok (.aload_n 0, 1) := by decide +kernel
theorem dX6_init_36 : decode cX6_init 36 = .ok (.getfield 12, 3) := by decide +kernel
theorem dX6_init_39 : decode cX6_init 39 = .ok (.invokespecial 27, 3) := by decide +kernel
theorem dX6_init_42 : decode cX6_init 42 = .ok (.putfield 28, 3) := by decide +kernel
theorem dX6_init_45 : decode cX6_init 45 = .ok (.aload_n 0, 1) := by decide +kernel
theorem dX6_init_46 : decode cX6_init 46 = .ok (.new 32, 3) := by decide +kernel
theorem dX6_init_49 : decode cX6_init 49 = .ok (.dup, 1) := by decide +kernel
theorem dX6_init_50 : decode cX6_init 50 = .ok (.aload_n 0, 1) := by decide +kernel
theorem dX6_init_51 : decode cX6_init 51 = .ok (.getfield 12, 3) := by decide +kernel
theorem dX6_init_54 : decode cX6_init 54 = .ok (.invokespecial 34, 3) := by decide +kernel
theorem dX6_init_57 : decode cX6_init 57 = .ok (.putfield 35, 3) := by decide +kernel
theorem dX6_init_60 : decode cX6_init 60 = .ok (.aload_n 0, 1) := by decide +kernel
theorem dX6_init_61 : decode cX6_init 61 = .ok (.iconst 4, 1) := by decide +kernel
theorem dX6_init_62 : decode cX6_init 62 = .ok (.anewarray 39, 3) := by decide +kernel
theorem dX6_init_65 : decode cX6_init 65 = .ok (.putfield 41, 3) := by decide +kernel
theorem dX6_init_68 : decode cX6_init 68 = .ok (.aload_n 0, 1) := by decide +kernel
theorem dX6_init_69 : decode cX6_init 69 = .ok (.bipush 7, 2) := by decide +kernel
theorem dX6_init_71 : decode cX6_init 71 = .ok (.newarray .int, 2) := by decide +kernel
theorem dX6_init_73 : decode cX6_init 73 = .ok (.putfield 45, 3) := by decide +kernel
theorem dX6_init_76 : decode cX6_init 76 = .ok (.aload_n 0, 1) := by decide +kernel
theorem dX6_init_77 : decode cX6_init 77 = .ok (.new 49, 3) := by decide +kernel
theorem dX6_init_80 : decode cX6_init 80 = .ok (.dup, 1) := by decide +kernel
theorem dX6_init_81 : decode cX6_init 81 = .ok (.invokespecial 51, 3) := by decide +kernel
theorem dX6_init_84 : decode cX6_init 84 = .ok (.putfield 52, 3) := by decide +kernel
theorem dX6_init_87 : decode cX6_init 87 = .ok (.aload_n 0, 1) := by decide +kernel
theorem dX6_init_88 : decode cX6_init 88 = .ok (.new 49, 3) := by decide +kernel
theorem dX6_init_91 : decode cX6_init 91 = .ok (.dup, 1) := by decide +kernel
theorem dX6_init_92 : decode cX6_init 92 = .ok (.invokespecial 51, 3) := by decide +kernel
theorem dX6_init_95 : decode cX6_init 95 = .ok (.putfield 56, 3) := by decide +kernel
theorem dX6_init_98 : decode cX6_init 98 = .ok (.aload_n 0, 1) := by decide +kernel
theorem dX6_init_99 : decode cX6_init 99 = .ok (.getfield 12, 3) := by decide +kernel
theorem dX6_init_102 : decode cX6_init 102 = .ok (.iconst 2, 1) := by decide +kernel
theorem dX6_init_103 : decode cX6_init 103 = .ok (.invokevirtual 59, 3) := by decide +kernel
theorem dX6_init_106 : decode cX6_init 106 = .ok (.iconst 0, 1) := by decide +kernel
theorem dX6_init_107 : decode cX6_init 107 = .ok (.istore_n 1, 1) := by decide +kernel
theorem dX6_init_108 : decode cX6_init 108 = .ok (.iload_n 1, 1) := by decide +kernel
theorem dX6_init_109 : decode cX6_init 109 = .ok (.iconst 4, 1) := by decide +kernel
theorem dX6_init_110 : decode cX6_init 110 = .ok (.if_icmp .ge 22, 3) := by decide +kernel
theorem dX6_init_113 : decode cX6_init 113 = .ok (.aload_n 0, 1) := by decide +kernel
theorem dX6_init_114 : decode cX6_init 114 = .ok (.getfield 41, 3) := by decide +kernel
theorem dX6_init_117 : decode cX6_init 117 = .ok (.iload_n 1, 1) := by decide +kernel
theorem dX6_init_118 : decode cX6_init 118 = .ok (.new 39, 3) := by decide +kernel
theorem dX6_init_121 : decode cX6_init 121 = .ok (.dup, 1) := by decide +kernel
theorem dX6_init_122 : decode cX6_init 122 = .ok (.invokespecial 63, 3) := by decide +kernel
theorem dX6_init_125 : decode cX6_init 125 = .ok (.aastore, 1) := by decide +kernel
theorem dX6_init_126 : decode cX6_init 126 = .ok (.iinc 1 1, 3) := by decide +kernel
theorem dX6_init_129 : decode cX6_init 129 = .ok (.goto (-21), 3) := by decide +kernel
theorem dX6_init_132 : decode cX6_init 132 = .ok (.return_, 1) := by decide +kernel
theorem dX6_joints_0 : decode cX6_joints 0 = .ok (.iload_n 1, 1) := by decide +kernel
theorem dX6_joints_1 : decode cX6_joints 1 = .ok (.iconst 2, 1) := by decide +kernel
theorem dX6_joints_2 : decode cX6_joints 2 = .ok (.if_icmp .lt 9, 3) := by decide +kernel
theorem dX6_joints_5 : decode cX6_joints 5 = .ok (.iload_n 1, 1) := by decide +kernel
theorem dX6_joints_6 : decode cX6_joints 6 = .ok (.bipush 6, 2) := by decide +kernel
theorem dX6_joints_8 : decode cX6_joints 8 = .ok (.if_icmp .le 5, 3) := by decide +kernel
theorem dX6_joints_11 : decode cX6_joints 11 = .ok (.iconst (-1), 1) := by decide +kernel
theorem dX6_joints_12 : decode cX6_joints 12 = .ok (.ireturn, 1) := by decide +kernel
theorem dX6_joints_13 : decode cX6_joints 13 = .ok (.aload_n 0, 1) := by decide +kernel
theorem dX6_joints_14 : decode cX6_joints 14 = .ok (.getfield 12, 3) := by decide +kernel
theorem dX6_joints_17 : decode cX6_joints 17 = .ok (.iload_n 1, 1) := by decide +kernel
theorem dX6_joints_18 : decode cX6_joints 18 = .ok (.invokevirtual 59, 3) := by decide +kernel
theorem dX6_joints_21 : decode cX6_joints 21 = .ok (.iconst 1, 1) := by decide +kernel
theorem dX6_joints_22 : decode cX6_joints 22 = .ok (.ireturn, 1) := by decide +kernel
theorem dX6_at_0 : decode cX6_at 0 = .ok (.iload_n 1, 1) := by decide +kernel
theorem dX6_at_1 : decode cX6_at 1 = .ok (.iconst 1, 1) := by decide +kernel
theorem dX6_at_2 : decode cX6_at 2 = .ok (.if_icmp .lt 24, 3) := by decide +kernel
theorem dX6_at_5 : decode cX6_at 5 = .ok (.iload_n 1, 1) := by decide +kernel
theorem dX6_at_6 : decode cX6_at 6 = .ok (.aload_n 0, 1) := by decide +kernel
theorem dX6_at_7 : decode cX6_at 7 = .ok (.getfield 12, 3) := by decide +kernel
theorem dX6_at_10 : decode cX6_at 10 = .ok (.getfield 64, 3) := by decide +kernel
theorem dX6_at_13 : decode cX6_at 13 = .ok (.if_icmp .gt 13, 3) := by decide +kernel
theorem dX6_at_16 : decode cX6_at 16 = .ok (.iload_n 2, 1) := by decide +kernel
theorem dX6_at_17 : decode cX6_at 17 = .ok (.ifCond .lt 9, 3) := by decide +kernel
theorem dX6_at_20 : decode cX6_at 20 = .ok (.iload_n 2, 1) := by decide +kernel
theorem dX6_at_21 : decode cX6_at 21 = .ok (.bipush 20, 2) := by decide +kernel
theorem dX6_at_23 : decode cX6_at 23 = .ok (.if_icmp .le 5, 3) := by decide +kernel
theorem dX6_at_26 : decode cX6_at 26 = .ok (.iconst (-1), 1) := by decide +kernel
theorem dX6_at_27 : decode cX6_at 27 = .ok (.ireturn, 1) := by decide +kernel
theorem dX6_at_28 : decode cX6_at 28 = .ok (.iload_n 2, 1) := by decide +kernel
theorem dX6_at_29 : decode cX6_at 29 = .ok (.aload_n 0, 1) := by decide +kernel
theorem dX6_at_30 : decode cX6_at 30 = .ok (.getfield 12, 3) := by decide +kernel
theorem dX6_at_33 : decode cX6_at 33 = .ok (.getfield 68, 3) := by decide +kernel
theorem dX6_at_36 : decode cX6_at 36 = .ok (.iload_n 1, 1) := by decide +kernel
theorem dX6_at_37 : decode cX6_at 37 = .ok (.iconst 1, 1) := by decide +kernel
theorem dX6_at_38 : decode cX6_at 38 = .ok (.isub, 1) := by decide +kernel
theorem dX6_at_39 : decode cX6_at 39 = .ok (.iaload, 1) := by decide +kernel
theorem dX6_at_40 : decode cX6_at 40 = .ok (.if_icmp .le 29, 3) := by decide +kernel
theorem dX6_at_43 : decode cX6_at 43 = .ok (.iload_n 1, 1) := by decide +kernel
theorem dX6_at_44 : decode cX6_at 44 = .ok (.aload_n 0, 1) := by decide +kernel
theorem dX6_at_45 : decode cX6_at 45 = .ok (.getfield 12, 3) := by decide +kernel
theorem dX6_at_48 : decode cX6_at 48 = .ok (.getfield 64, 3) := by decide +kernel
theorem dX6_at_51 : decode cX6_at 51 = .ok (.if_icmp .ge 21, 3) := by decide +kernel
theorem dX6_at_54 : decode cX6_at 54 = .ok (.iload_n 2, 1) := by decide +kernel
theorem dX6_at_55 : decode cX6_at 55 = .ok (.aload_n 0, 1) := by decide +kernel
theorem dX6_at_56 : decode cX6_at 56 = .ok (.getfield 12, 3) := by decide +kernel
theorem dX6_at_59 : decode cX6_at 59 = .ok (.getfield 68, 3) := by decide +kernel
theorem dX6_at_62 : decode cX6_at 62 = .ok (.iload_n 1, 1) := by decide +kernel
theorem dX6_at_63 : decode cX6_at 63 = .ok (.iconst 1, 1) := by decide +kernel
theorem dX6_at_64 : decode cX6_at 64 = .ok (.iadd, 1) := by decide +kernel
theorem dX6_at_65 : decode cX6_at 65 = .ok (.iaload, 1) := by decide +kernel
theorem dX6_at_66 : decode cX6_at 66 = .ok (.if_icmp .lt 6, 3) := by decide +kernel
theorem dX6_at_69 : decode cX6_at 69 = .ok (.bipush (-2), 2) := by decide +kernel
theorem dX6_at_71 : decode cX6_at 71 = .ok (.ireturn, 1) := by decide +kernel
theorem dX6_at_72 : decode cX6_at 72 = .ok (.aload_n 0, 1) := by decide +kernel
theorem dX6_at_73 : decode cX6_at 73 = .ok (.getfield 12, 3) := by decide +kernel
theorem dX6_at_76 : decode cX6_at 76 = .ok (.getfield 68, 3) := by decide +kernel
theorem dX6_at_79 : decode cX6_at 79 = .ok (.iload_n 1, 1) := by decide +kernel
theorem dX6_at_80 : decode cX6_at 80 = .ok (.iaload, 1) := by decide +kernel
theorem dX6_at_81 : decode cX6_at 81 = .ok (.istore_n 3, 1) := by decide +kernel
theorem dX6_at_82 : decode cX6_at 82 = .ok (.aload_n 0, 1) := by decide +kernel
theorem dX6_at_83 : decode cX6_at 83 = .ok (.getfield 12, 3) := by decide +kernel
theorem dX6_at_86 : decode cX6_at 86 = .ok (.getfield 68, 3) := by decide +kernel
theorem dX6_at_89 : decode cX6_at 89 = .ok (.iload_n 1, 1) := by decide +kernel
theorem dX6_at_90 : decode cX6_at 90 = .ok (.iload_n 2, 1) := by decide +kernel
theorem dX6_at_91 : decode cX6_at 91 = .ok (.iastore, 1) := by decide +kernel
theorem dX6_at_92 : decode cX6_at 92 = .ok (.iload_n 3, 1) := by decide +kernel
theorem dX6_at_93 : decode cX6_at 93 = .ok (.ireturn, 1) := by decide +kernel
theorem dX6_edges_0 : decode cX6_edges 0 = .ok (.aload_n 0, 1) := by decide +kernel
theorem dX6_edges_1 : decode cX6_edges 1 = .ok (.getfield 12, 3) := by decide +kernel
theorem dX6_edges_4 : decode cX6_edges 4 = .ok (.iload_n 1, 1) := by decide +kernel
theorem dX6_edges_5 : decode cX6_edges 5 = .ok (.invokevirtual 71, 3) := by decide +kernel
theorem dX6_edges_8 : decode cX6_edges 8 = .ok (.ifCond .eq 11, 3) := by decide +kernel
theorem dX6_edges_11 : decode cX6_edges 11 = .ok (.iload_n 2, 1) := by decide +kernel
theorem dX6_edges_12 : decode cX6_edges 12 = .ok (.iload_n 3, 1) := by decide +kernel
theorem dX6_edges_13 : decode cX6_edges 13 = .ok (.invokestatic 75, 3) := by decide +kernel
theorem dX6_edges_16 : decode cX6_edges 16 = .ok (.ifCond .ne 5, 3) := by decide +kernel
theorem dX6_edges_19 : decode cX6_edges 19 = .ok (.iconst (-1), 1) := by decide +kernel
theorem dX6_edges_20 : decode cX6_edges 20 = .ok (.ireturn, 1) := by decide +kernel
theorem dX6_edges_21 : decode cX6_edges 21 = .ok (.aload_n 0, 1) := by decide +kernel
theorem dX6_edges_22 : decode cX6_edges 22 = .ok (.getfield 12, 3) := by decide +kernel
theorem dX6_edges_25 : decode cX6_edges 25 = .ok (.getfield 79, 3) := by decide +kernel
theorem dX6_edges_28 : decode cX6_edges 28 = .ok (.iload_n 1, 1) := by decide +kernel
theorem dX6_edges_29 : decode cX6_edges 29 = .ok (.iload_n 2, 1) := by decide +kernel
theorem dX6_edges_30 : decode cX6_edges 30 = .ok (.iastore, 1) := by decide +kernel
theorem dX6_edges_31 : decode cX6_edges 31 = .ok (.aload_n 0, 1) := by decide +kernel
theorem dX6_edges_32 : decode cX6_edges 32 = .ok (.getfield 12, 3) := by decide +kernel
theorem dX6_edges_35 : decode cX6_edges 35 = .ok (.getfield 82, 3) := by decide +kernel
theorem dX6_edges_38 : decode cX6_edges 38 = .ok (.iload_n 1, 1) := by decide +kernel
theorem dX6_edges_39 : decode cX6_edges 39 = .ok (.iload_n 3, 1) := by decide +kernel
theorem dX6_edges_40 : decode cX6_edges 40 = .ok (.iastore, 1) := by decide +kernel
theorem dX6_edges_41 : decode cX6_edges 41 = .ok (.iconst 1, 1) := by decide +kernel
theorem dX6_edges_42 : decode cX6_edges 42 = .ok (.ireturn, 1) := by decide +kernel
theorem dX6_load_0 : decode cX6_load 0 = .ok (.aload_n 0, 1) := by decide +kernel
theorem dX6_load_1 : decode cX6_load 1 = .ok (.getfield 12, 3) := by decide +kernel
theorem dX6_load_4 : decode cX6_load 4 = .ok (.iload_n 1, 1) := by decide +kernel
theorem dX6_load_5 : decode cX6_load 5 = .ok (.invokevirtual 85, 3) := by decide +kernel
theorem dX6_load_8 : decode cX6_load 8 = .ok (.ifCond .eq 10, 3) := by decide +kernel
theorem dX6_load_11 : decode cX6_load 11 = .ok (.iload_n 2, 1) := by decide +kernel
theorem dX6_load_12 : decode cX6_load 12 = .ok (.invokestatic 88, 3) := by decide +kernel
theorem dX6_load_15 : decode cX6_load 15 = .ok (.ifCond .ne 5, 3) := by decide +kernel
theorem dX6_load_18 : decode cX6_load 18 = .ok (.iconst (-1), 1) := by decide +kernel
theorem dX6_load_19 : decode cX6_load 19 = .ok (.ireturn, 1) := by decide +kernel
theorem dX6_load_20 : decode cX6_load 20 = .ok (.aload_n 0, 1) := by decide +kernel
theorem dX6_load_21 : decode cX6_load 21 = .ok (.getfield 12, 3) := by decide +kernel
theorem dX6_load_24 : decode cX6_load 24 = .ok (.getfield 91, 3) := by decide +kernel
theorem dX6_load_27 : decode cX6_load 27 = .ok (.iload_n 1, 1) := by decide +kernel
theorem dX6_load_28 : decode cX6_load 28 = .ok (.iaload, 1) := by decide +kernel
theorem dX6_load_29 : decode cX6_load 29 = .ok (.istore_n 3, 1) := by decide +kernel
theorem dX6_load_30 : decode cX6_load 30 = .ok (.aload_n 0, 1) := by decide +kernel
theorem dX6_load_31 : decode cX6_load 31 = .ok (.getfield 12, 3) := by decide +kernel
theorem dX6_load_34 : decode cX6_load 34 = .ok (.getfield 91, 3) := by decide +kernel
theorem dX6_load_37 : decode cX6_load 37 = .ok (.iload_n 1, 1) := by decide +kernel
theorem dX6_load_38 : decode cX6_load 38 = .ok (.iload_n 2, 1) := by decide +kernel
theorem dX6_load_39 : decode cX6_load 39 = .ok (.iastore, 1) := by decide +kernel
theorem dX6_load_40 : decode cX6_load 40 = .ok (.iload_n 3, 1) := by decide +kernel
theorem dX6_load_41 : decode cX6_load 41 = .ok (.ireturn, 1) := by decide +kernel
theorem dX6_sheet_0 : decode cX6_sheet 0 = .ok (.iload_n 1, 1) := by decide +kernel
theorem dX6_sheet_1 : decode cX6_sheet 1 = .ok (.invokestatic 94, 3) := by decide +kernel
theorem dX6_sheet_4 : decode cX6_sheet 4 = .ok (.ifCond .eq 16, 3) := by decide +kernel
theorem dX6_sheet_7 : decode cX6_sheet 7 = .ok (.iload_n 2, 1) := by decide +kernel
theorem dX6_sheet_8 : decode cX6_sheet 8 = .ok (.invokestatic 97, 3) := by decide +kernel
theorem dX6_sheet_11 : decode cX6_sheet 11 = .ok (.ifCond .eq 9, 3) := by decide +kernel
theorem dX6_sheet_14 : decode cX6_sheet 14 = .ok (.iload_n 3, 1) := by decide +kernel
theorem dX6_sheet_15 : decode cX6_sheet 15 = .ok (.bipush 28, 2) := by decide +kernel
theorem dX6_sheet_17 : decode cX6_sheet 17 = .ok (.if_icmp .le 5, 3) := by decide +kernel
theorem dX6_sheet_20 : decode cX6_sheet 20 = .ok (.iconst (-1), 1) := by decide +kernel
theorem dX6_sheet_21 : decode cX6_sheet 21 = .ok (.ireturn, 1) := by decide +kernel
theorem dX6_sheet_22 : decode cX6_sheet 22 = .ok (.iload_n 3, 1) := by decide +kernel
theorem dX6_sheet_23 : decode cX6_sheet 23 = .ok (.ifCond .ge 6, 3) := by decide +kernel
theorem dX6_sheet_26 : decode cX6_sheet 26 = .ok (.bipush (-14), 2) := by decide +kernel
theorem dX6_sheet_28 : decode cX6_sheet 28 = .ok (.ireturn, 1) := by decide +kernel
theorem dX6_sheet_29 : decode cX6_sheet 29 = .ok (.aload_n 0, 1) := by decide +kernel
theorem dX6_sheet_30 : decode cX6_sheet 30 = .ok (.getfield 41, 3) := by decide +kernel
theorem dX6_sheet_33 : decode cX6_sheet 33 = .ok (.iload_n 1, 1) := by decide +kernel
theorem dX6_sheet_34 : decode cX6_sheet 34 = .ok (.aaload, 1) := by decide +kernel
theorem dX6_sheet_35 : decode cX6_sheet 35 = .ok (.iload_n 2, 1) := by decide +kernel
theorem dX6_sheet_36 : decode cX6_sheet 36 = .ok (.iload_n 3, 1) := by decide +kernel
theorem dX6_sheet_37 : decode cX6_sheet 37 = .ok (.invokevirtual 100, 3) := by decide +kernel
theorem dX6_sheet_40 : decode cX6_sheet 40 = .ok (.iload_n 3, 1) := by decide +kernel
theorem dX6_sheet_41 : decode cX6_sheet 41 = .ok (.ireturn, 1) := by decide +kernel
theorem dX6_drop_0 : decode cX6_drop 0 = .ok (.iload_n 1, 1) := by decide +kernel
theorem dX6_drop_1 : decode cX6_drop 1 = .ok (.invokestatic 94, 3) := by decide +kernel
theorem dX6_drop_4 : decode cX6_drop 4 = .ok (.ifCond .ne 5, 3) := by decide +kernel
theorem dX6_drop_7 : decode cX6_drop 7 = .ok (.iconst (-1), 1) := by decide +kernel
theorem dX6_drop_8 : decode cX6_drop 8 = .ok (.ireturn, 1) := by decide +kernel
theorem dX6_drop_9 : decode cX6_drop 9 = .ok (.aload_n 0, 1) := by decide +kernel
theorem dX6_drop_10 : decode cX6_drop 10 = .ok (.getfield 41, 3) := by decide +kernel
theorem dX6_drop_13 : decode cX6_drop 13 = .ok (.iload_n 1, 1) := by decide +kernel
theorem dX6_drop_14 : decode cX6_drop 14 = .ok (.aaload, 1) := by decide +kernel
theorem dX6_drop_15 : decode cX6_drop 15 = .ok (.getfield 104, 3) := by decide +kernel
theorem dX6_drop_18 : decode cX6_drop 18 = .ok (.ifCond .ne 6, 3) := by decide +kernel
theorem dX6_drop_21 : decode cX6_drop 21 = .ok (.bipush (-11), 2) := by decide +kernel
theorem dX6_drop_23 : decode cX6_drop 23 = .ok (.ireturn, 1) := by decide +kernel
theorem dX6_drop_24 : decode cX6_drop 24 = .ok (.aload_n 0, 1) := by decide +kernel
theorem dX6_drop_25 : decode cX6_drop 25 = .ok (.getfield 41, 3) := by decide +kernel
theorem dX6_drop_28 : decode cX6_drop 28 = .ok (.iload_n 1, 1) := by decide +kernel
theorem dX6_drop_29 : decode cX6_drop 29 = .ok (.aaload, 1) := by decide +kernel
theorem dX6_drop_30 : decode cX6_drop 30 = .ok (.iconst 0, 1) := by decide +kernel
theorem dX6_drop_31 : decode cX6_drop 31 = .ok (.putfield 104, 3) := by decide +kernel
theorem dX6_drop_34 : decode cX6_drop 34 = .ok (.aload_n 0, 1) := by decide +kernel
theorem dX6_drop_35 : decode cX6_drop 35 = .ok (.getfield 41, 3) := by decide +kernel
theorem dX6_drop_38 : decode cX6_drop 38 = .ok (.iload_n 1, 1) := by decide +kernel
theorem dX6_drop_39 : decode cX6_drop 39 = .ok (.aaload, 1) := by decide +kernel
theorem dX6_drop_40 : decode cX6_drop 40 = .ok (.getfield 108, 3) := by decide +kernel
theorem dX6_drop_43 : decode cX6_drop 43 = .ok (.ireturn, 1) := by decide +kernel
theorem dX6_item_0 : decode cX6_item 0 = .ok (.aload_n 0, 1) := by decide +kernel
theorem dX6_item_1 : decode cX6_item 1 = .ok (.iload_n 1, 1) := by decide +kernel
theorem dX6_item_2 : decode cX6_item 2 = .ok (.iload_n 2, 1) := by decide +kernel
theorem dX6_item_3 : decode cX6_item 3 = .ok (.invokevirtual 111, 3) := by decide +kernel
theorem dX6_item_6 : decode cX6_item 6 = .ok (.istore 5, 2) := by decide +kernel
theorem dX6_item_8 : decode cX6_item 8 = .ok (.iload 5, 2) := by decide +kernel
theorem dX6_item_10 : decode cX6_item 10 = .ok (.ifCond .eq 6, 3) := by decide +kernel
theorem dX6_item_13 : decode cX6_item 13 = .ok (.iload 5, 2) := by decide +kernel
theorem dX6_item_15 : decode cX6_item 15 = .ok (.ireturn, 1) := by decide +kernel
theorem dX6_item_16 : decode cX6_item 16 = .ok (.aload_n 0, 1) := by decide +kernel
theorem dX6_item_17 : decode cX6_item 17 = .ok (.getfield 41, 3) := by decide +kernel
theorem dX6_item_20 : decode cX6_item 20 = .ok (.iload_n 1, 1) := by decide +kernel
theorem dX6_item_21 : decode cX6_item 21 = .ok (.aaload, 1) := by decide +kernel
theorem dX6_item_22 : decode cX6_item 22 = .ok (.astore 6, 2) := by decide +kernel
theorem dX6_item_24 : decode cX6_item 24 = .ok (.iload_n 3, 1) := by decide +kernel
theorem dX6_item_25 : decode cX6_item 25 = .ok (.ifCond .lt 12, 3) := by decide +kernel
theorem dX6_item_28 : decode cX6_item 28 = .ok (.iload_n 3, 1) := by decide +kernel
theorem dX6_item_29 : decode cX6_item 29 = .ok (.aload 6, 2) := by decide +kernel
theorem dX6_item_31 : decode cX6_item 31 = .ok (.getfield 108, 3) := by decide +kernel
theorem dX6_item_34 : decode cX6_item 34 = .ok (.if_icmp .lt 6, 3) := by decide +kernel
theorem dX6_item_37 : decode cX6_item 37 = .ok (.bipush (-13), 2) := by decide +kernel
theorem dX6_item_39 : decode cX6_item 39 = .ok (.ireturn, 1) := by decide +kernel
theorem dX6_item_40 : decode cX6_item 40 = .ok (.aload 6, 2) := by decide +kernel
theorem dX6_item_42 : decode cX6_item 42 = .ok (.getfield 115, 3) := by decide +kernel
theorem dX6_item_45 : decode cX6_item 45 = .ok (.iload_n 3, 1) := by decide +kernel
theorem dX6_item_46 : decode cX6_item 46 = .ok (.iload_n 2, 1) := by decide +kernel
theorem dX6_item_47 : decode cX6_item 47 = .ok (.ifCond .ne 9, 3) := by decide +kernel
theorem dX6_item_50 : decode cX6_item 50 = .ok (.iload 4, 2) := by decide +kernel
theorem dX6_item_52 : decode cX6_item 52 = .ok (.i2b, 1) := by decide +kernel
theorem dX6_item_53 : decode cX6_item 53 = .ok (.goto 5, 3) := by decide +kernel
theorem dX6_item_56 : decode cX6_item 56 = .ok (.iload 4, 2) := by decide +kernel
theorem dX6_item_58 : decode cX6_item 58 = .ok (.iastore, 1) := by decide +kernel
theorem dX6_item_59 : decode cX6_item 59 = .ok (.iconst 1, 1) := by decide +kernel
theorem dX6_item_60 : decode cX6_item 60 = .ok (.ireturn, 1) := by decide +kernel
theorem dX6_read_0 : decode cX6_read 0 = .ok (.aload_n 0, 1) := by decide +kernel
theorem dX6_read_1 : decode cX6_read 1 = .ok (.iload_n 1, 1) := by decide +kernel
theorem dX6_read_2 : decode cX6_read 2 = .ok (.iload_n 2, 1) := by decide +kernel
theorem dX6_read_3 : decode cX6_read 3 = .ok (.invokevirtual 111, 3) := by decide +kernel
theorem dX6_read_6 : decode cX6_read 6 = .ok (.istore 4, 2) := by decide +kernel
theorem dX6_read_8 : decode cX6_read 8 = .ok (.iload 4, 2) := by decide +kernel
theorem dX6_read_10 : decode cX6_read 10 = .ok (.ifCond .eq 6, 3) := by decide +kernel
theorem dX6_read_13 : decode cX6_read 13 = .ok (.iload 4, 2) := by decide +kernel
theorem dX6_read_15 : decode cX6_read 15 = .ok (.ireturn, 1) := by decide +kernel
theorem dX6_read_16 : decode cX6_read 16 = .ok (.aload_n 0, 1) := by decide +kernel
theorem dX6_read_17 : decode cX6_read 17 = .ok (.getfield 41, 3) := by decide +kernel
theorem dX6_read_20 : decode cX6_read 20 = .ok (.iload_n 1, 1) := by decide +kernel
theorem dX6_read_21 : decode cX6_read 21 = .ok (.aaload, 1) := by decide +kernel
theorem dX6_read_22 : decode cX6_read 22 = .ok (.astore 5, 2) := by decide +kernel
theorem dX6_read_24 : decode cX6_read 24 = .ok (.iload_n 3, 1) := by decide +kernel
theorem dX6_read_25 : decode cX6_read 25 = .ok (.ifCond .lt 24, 3) := by decide +kernel
theorem dX6_read_28 : decode cX6_read 28 = .ok (.iload_n 3, 1) := by decide +kernel
theorem dX6_read_29 : decode cX6_read 29 = .ok (.aload 5, 2) := by decide +kernel
theorem dX6_read_31 : decode cX6_read 31 = .ok (.getfield 108, 3) := by decide +kernel
theorem dX6_read_34 : decode cX6_read 34 = .ok (.iconst 4, 1) := by decide +kernel
theorem dX6_read_35 : decode cX6_read 35 = .ok (.aload_n 0, 1) := by decide +kernel
theorem dX6_read_36 : decode cX6_read 36 = .ok (.getfield 12, 3) := by decide +kernel
theorem dX6_read_39 : decode cX6_read 39 = .ok (.getfield 64, 3) := by decide +kernel
theorem dX6_read_42 : decode cX6_read 42 = .ok (.iconst 1, 1) := by decide +kernel
theorem dX6_read_43 : decode cX6_read 43 = .ok (.iadd, 1) := by decide +kernel
theorem dX6_read_44 : decode cX6_read 44 = .ok (.imul, 1) := by decide +kernel
theorem dX6_read_45 : decode cX6_read 45 = .ok (.isub, 1) := by decide +kernel
theorem dX6_read_46 : decode cX6_read 46 = .ok (.if_icmp .le 6, 3) := by decide +kernel
theorem dX6_read_49 : decode cX6_read 49 = .ok (.bipush (-13), 2) := by decide +kernel
theorem dX6_read_51 : decode cX6_read 51 = .ok (.ireturn, 1) := by decide +kernel
theorem dX6_read_52 : decode cX6_read 52 = .ok (.aload_n 0, 1) := by decide +kernel
theorem dX6_read_53 : decode cX6_read 53 = .ok (.getfield 12, 3) := by decide +kernel
theorem dX6_read_56 : decode cX6_read 56 = .ok (.aload 5, 2) := by decide +kernel
theorem dX6_read_58 : decode cX6_read 58 = .ok (.getfield 115, 3) := by decide +kernel
theorem dX6_read_61 : decode cX6_read 61 = .ok (.iload_n 3, 1) := by decide +kernel
theorem dX6_read_62 : decode cX6_read 62 = .ok (.invokevirtual 118, 3) := by decide +kernel
theorem dX6_read_65 : decode cX6_read 65 = .ok (.ifCond .ne 6, 3) := by decide +kernel
theorem dX6_read_68 : decode cX6_read 68 = .ok (.bipush (-2), 2) := by decide +kernel
theorem dX6_read_70 : decode cX6_read 70 = .ok (.ireturn, 1) := by decide +kernel
theorem dX6_read_71 : decode cX6_read 71 = .ok (.aload_n 0, 1) := by decide +kernel
theorem dX6_read_72 : decode cX6_read 72 = .ok (.getfield 12, 3) := by decide +kernel
theorem dX6_read_75 : decode cX6_read 75 = .ok (.aload 5, 2) := by decide +kernel
theorem dX6_read_77 : decode cX6_read 77 = .ok (.getfield 115, 3) := by decide +kernel
theorem dX6_read_80 : decode cX6_read 80 = .ok (.iload_n 3, 1) := by decide +kernel
theorem dX6_read_81 : decode cX6_read 81 = .ok (.invokevirtual 122, 3) := by decide +kernel
theorem dX6_read_84 : decode cX6_read 84 = .ok (.iconst 1, 1) := by decide +kernel
theorem dX6_read_85 : decode cX6_read 85 = .ok (.ireturn, 1) := by decide +kernel
theorem dX6_told_0 : decode cX6_told 0 = .ok (.aload_n 0, 1) := by decide +kernel
theorem dX6_told_1 : decode cX6_told 1 = .ok (.getfield 12, 3) := by decide +kernel
theorem dX6_told_4 : decode cX6_told 4 = .ok (.iload_n 1, 1) := by decide +kernel
theorem dX6_told_5 : decode cX6_told 5 = .ok (.invokevirtual 71, 3) := by decide +kernel
theorem dX6_told_8 : decode cX6_told 8 = .ok (.ifCond .ne 6, 3) := by decide +kernel
theorem dX6_told_11 : decode cX6_told 11 = .ok (.ldc 126, 2) := by decide +kernel
theorem dX6_told_13 : decode cX6_told 13 = .ok (.ireturn, 1) := by decide +kernel
theorem dX6_told_14 : decode cX6_told 14 = .ok (.iload_n 2, 1) := by decide +kernel
theorem dX6_told_15 : decode cX6_told 15 = .ok (.tableswitch 97 0 4 #[33, 43, 53, 63, 73], 33) := by decide +kernel
theorem dX6_told_48 : decode cX6_told 48 = .ok (.aload_n 0, 1) := by decide +kernel
theorem dX6_told_49 : decode cX6_told 49 = .ok (.getfield 12, 3) := by decide +kernel
theorem dX6_told_52 : decode cX6_told 52 = .ok (.getfield 68, 3) := by decide +kernel
theorem dX6_told_55 : decode cX6_told 55 = .ok (.iload_n 1, 1) := by decide +kernel
theorem dX6_told_56 : decode cX6_told 56 = .ok (.iaload, 1) := by decide +kernel
theorem dX6_told_57 : decode cX6_told 57 = .ok (.ireturn, 1) := by decide +kernel
theorem dX6_told_58 : decode cX6_told 58 = .ok (.aload_n 0, 1) := by decide +kernel
theorem dX6_told_59 : decode cX6_told 59 = .ok (.getfield 12, 3) := by decide +kernel
theorem dX6_told_62 : decode cX6_told 62 = .ok (.getfield 79, 3) := by decide +kernel
theorem dX6_told_65 : decode cX6_told 65 = .ok (.iload_n 1, 1) := by decide +kernel
theorem dX6_told_66 : decode cX6_told 66 = .ok (.iaload, 1) := by decide +kernel
theorem dX6_told_67 : decode cX6_told 67 = .ok (.ireturn, 1) := by decide +kernel
theorem dX6_told_68 : decode cX6_told 68 = .ok (.aload_n 0, 1) := by decide +kernel
theorem dX6_told_69 : decode cX6_told 69 = .ok (.getfield 12, 3) := by decide +kernel
theorem dX6_told_72 : decode cX6_told 72 = .ok (.getfield 82, 3) := by decide +kernel
theorem dX6_told_75 : decode cX6_told 75 = .ok (.iload_n 1, 1) := by decide +kernel
theorem dX6_told_76 : decode cX6_told 76 = .ok (.iaload, 1) := by decide +kernel
theorem dX6_told_77 : decode cX6_told 77 = .ok (.ireturn, 1) := by decide +kernel
theorem dX6_told_78 : decode cX6_told 78 = .ok (.aload_n 0, 1) := by decide +kernel
theorem dX6_told_79 : decode cX6_told 79 = .ok (.getfield 12, 3) := by decide +kernel
theorem dX6_told_82 : decode cX6_told 82 = .ok (.getfield 91, 3) := by decide +kernel
theorem dX6_told_85 : decode cX6_told 85 = .ok (.iload_n 1, 1) := by decide +kernel
theorem dX6_told_86 : decode cX6_told 86 = .ok (.iaload, 1) := by decide +kernel
theorem dX6_told_87 : decode cX6_told 87 = .ok (.ireturn, 1) := by decide +kernel
theorem dX6_told_88 : decode cX6_told 88 = .ok (.aload_n 0, 1) := by decide +kernel
theorem dX6_told_89 : decode cX6_told 89 = .ok (.getfield 12, 3) := by decide +kernel
theorem dX6_told_92 : decode cX6_told 92 = .ok (.aload_n 0, 1) := by decide +kernel
theorem dX6_told_93 : decode cX6_told 93 = .ok (.getfield 12, 3) := by decide +kernel
theorem dX6_told_96 : decode cX6_told 96 = .ok (.getfield 91, 3) := by decide +kernel
theorem dX6_told_99 : decode cX6_told 99 = .ok (.invokevirtual 127, 3) := by decide +kernel
theorem dX6_told_102 : decode cX6_told 102 = .ok (.aload_n 0, 1) := by decide +kernel
theorem dX6_told_103 : decode cX6_told 103 = .ok (.getfield 12, 3) := by decide +kernel
theorem dX6_told_106 : decode cX6_told 106 = .ok (.getfield 131, 3) := by decide +kernel
theorem dX6_told_109 : decode cX6_told 109 = .ok (.iload_n 1, 1) := by decide +kernel
theorem dX6_told_110 : decode cX6_told 110 = .ok (.iaload, 1) := by decide +kernel
theorem dX6_told_111 : decode cX6_told 111 = .ok (.ireturn, 1) := by decide +kernel
theorem dX6_told_112 : decode cX6_told 112 = .ok (.ldc 126, 2) := by decide +kernel
theorem dX6_told_114 : decode cX6_told 114 = .ok (.ireturn, 1) := by decide +kernel
theorem dX6_stands_0 : decode cX6_stands 0 = .ok (.aload_n 0, 1) := by decide +kernel
theorem dX6_stands_1 : decode cX6_stands 1 = .ok (.aload_n 0, 1) := by decide +kernel
theorem dX6_stands_2 : decode cX6_stands 2 = .ok (.getfield 12, 3) := by decide +kernel
theorem dX6_stands_5 : decode cX6_stands 5 = .ok (.getfield 91, 3) := by decide +kernel
theorem dX6_stands_8 : decode cX6_stands 8 = .ok (.invokevirtual 134, 3) := by decide +kernel
theorem dX6_stands_11 : decode cX6_stands 11 = .ok (.ifCond .eq 7, 3) := by decide +kernel
theorem dX6_stands_14 : decode cX6_stands 14 = .ok (.iconst 1, 1) := by decide +kernel
theorem dX6_stands_15 : decode cX6_stands 15 = .ok (.goto 4, 3) := by decide +kernel
theorem dX6_stands_18 : decode cX6_stands 18 = .ok (.iconst 0, 1) := by decide +kernel
theorem dX6_stands_19 : decode cX6_stands 19 = .ok (.ireturn, 1) := by decide +kernel
theorem dX6_thrust_0 : decode cX6_thrust 0 = .ok (.iload_n 1, 1) := by decide +kernel
theorem dX6_thrust_1 : decode cX6_thrust 1 = .ok (.invokestatic 138, 3) := by decide +kernel
theorem dX6_thrust_4 : decode cX6_thrust 4 = .ok (.ifCond .eq 10, 3) := by decide +kernel
theorem dX6_thrust_7 : decode cX6_thrust 7 = .ok (.iload_n 2, 1) := by decide +kernel
theorem dX6_thrust_8 : decode cX6_thrust 8 = .ok (.invokestatic 138, 3) := by decide +kernel
theorem dX6_thrust_11 : decode cX6_thrust 11 = .ok (.ifCond .ne 7, 3) := by decide +kernel
theorem dX6_thrust_14 : decode cX6_thrust 14 = .ok (.ldc2_w 141, 3) := by decide +kernel
theorem dX6_thrust_17 : decode cX6_thrust 17 = .ok (.lreturn, 1) := by decide +kernel
theorem dX6_thrust_18 : decode cX6_thrust 18 = .ok (.aload_n 0, 1) := by decide +kernel
theorem dX6_thrust_19 : decode cX6_thrust 19 = .ok (.aload_n 0, 1) := by decide +kernel
theorem dX6_thrust_20 : decode cX6_thrust 20 = .ok (.getfield 12, 3) := by decide +kernel
theorem dX6_thrust_23 : decode cX6_thrust 23 = .ok (.getfield 91, 3) := by decide +kernel
theorem dX6_thrust_26 : decode cX6_thrust 26 = .ok (.invokevirtual 134, 3) := by decide +kernel
theorem dX6_thrust_29 : decode cX6_thrust 29 = .ok (.ifCond .ne 7, 3) := by decide +kernel
theorem dX6_thrust_32 : decode cX6_thrust 32 = .ok (.ldc2_w 143, 3) := by decide +kernel
theorem dX6_thrust_35 : decode cX6_thrust 35 = .ok (.lreturn, 1) := by decide +kernel
theorem dX6_thrust_36 : decode cX6_thrust 36 = .ok (.iload_n 1, 1) := by decide +kernel
theorem dX6_thrust_37 : decode cX6_thrust 37 = .ok (.ifCond .ne 17, 3) := by decide +kernel
theorem dX6_thrust_40 : decode cX6_thrust 40 = .ok (.aload_n 0, 1) := by decide +kernel
theorem dX6_thrust_41 : decode cX6_thrust 41 = .ok (.getfield 21, 3) := by decide +kernel
theorem dX6_thrust_44 : decode cX6_thrust 44 = .ok (.aload_n 0, 1) := by decide +kernel
theorem dX6_thrust_45 : decode cX6_thrust 45 = .ok (.getfield 52, 3) := by decide +kernel
theorem dX6_thrust_48 : decode cX6_thrust 48 = .ok (.invokevirtual 145, 3) := by decide +kernel
theorem dX6_thrust_51 : decode cX6_thrust 51 = .ok (.goto 14, 3) := by decide +kernel
theorem dX6_thrust_54 : decode cX6_thrust 54 = .ok (.aload_n 0, 1) := by decide +kernel
theorem dX6_thrust_55 : decode cX6_thrust 55 = .ok (.getfield 21, 3) := by decide +kernel
theorem dX6_thrust_58 : decode cX6_thrust 58 = .ok (.aload_n 0, 1) := by decide +kernel
theorem dX6_thrust_59 : decode cX6_thrust 59 = .ok (.getfield 52, 3) := by decide +kernel
theorem dX6_thrust_62 : decode cX6_thrust 62 = .ok (.invokevirtual 149, 3) := by decide +kernel
theorem dX6_thrust_65 : decode cX6_thrust 65 = .ok (.istore_n 3, 1) := by decide +kernel
theorem dX6_thrust_66 : decode cX6_thrust 66 = .ok (.iload_n 3, 1) := by decide +kernel
theorem dX6_thrust_67 : decode cX6_thrust 67 = .ok (.ifCond .eq 15, 3) := by decide +kernel
theorem dX6_thrust_70 : decode cX6_thrust 70 = .ok (.aload_n 0, 1) := by decide +kernel
theorem dX6_thrust_71 : decode cX6_thrust 71 = .ok (.getfield 52, 3) := by decide +kernel
theorem dX6_thrust_74 : decode cX6_thrust 74 = .ok (.getfield 152, 3) := by decide +kernel
theorem dX6_thrust_77 : decode cX6_thrust 77 = .ok (.lconst 0, 1) := by decide +kernel
theorem dX6_thrust_78 : decode cX6_thrust 78 = .ok (.lcmp, 1) := by decide +kernel
theorem dX6_thrust_79 : decode cX6_thrust 79 = .ok (.ifCond .ne 7, 3) := by decide +kernel
theorem dX6_thrust_82 : decode cX6_thrust 82 = .ok (.ldc2_w 156, 3) := by decide +kernel
theorem dX6_thrust_85 : decode cX6_thrust 85 = .ok (.lreturn, 1) := by decide +kernel
theorem dX6_thrust_86 : decode cX6_thrust 86 = .ok (.aload_n 0, 1) := by decide +kernel
theorem dX6_thrust_87 : decode cX6_thrust 87 = .ok (.getfield 52, 3) := by decide +kernel
theorem dX6_thrust_90 : decode cX6_thrust 90 = .ok (.aload_n 0, 1) := by decide +kernel
theorem dX6_thrust_91 : decode cX6_thrust 91 = .ok (.getfield 52, 3) := by decide +kernel
theorem dX6_thrust_94 : decode cX6_thrust 94 = .ok (.getfield 158, 3) := by decide +kernel
theorem dX6_thrust_97 : decode cX6_thrust 97 = .ok (.aload_n 0, 1) := by decide +kernel
theorem dX6_thrust_98 : decode cX6_thrust 98 = .ok (.getfield 52, 3) := by decide +kernel
theorem dX6_thrust_101 : decode cX6_thrust 101 = .ok (.getfield 152, 3) := by decide +kernel
theorem dX6_thrust_104 : decode cX6_thrust 104 = .ok (.aload_n 0, 1) := by decide +kernel
theorem dX6_thrust_105 : decode cX6_thrust 105 = .ok (.getfield 12, 3) := by decide +kernel
theorem dX6_thrust_108 : decode cX6_thrust 108 = .ok (.invokevirtual 161, 3) := by decide +kernel
theorem dX6_thrust_111 : decode cX6_thrust 111 = .ok (.i2l, 1) := by decide +kernel
theorem dX6_thrust_112 : decode cX6_thrust 112 = .ok (.lmul, 1) := by decide +kernel
theorem dX6_thrust_113 : decode cX6_thrust 113 = .ok (.invokevirtual 165, 3) := by decide +kernel
theorem dX6_thrust_116 : decode cX6_thrust 116 = .ok (.aload_n 0, 1) := by decide +kernel
theorem dX6_thrust_117 : decode cX6_thrust 117 = .ok (.getfield 52, 3) := by decide +kernel
theorem dX6_thrust_120 : decode cX6_thrust 120 = .ok (.iload_n 2, 1) := by decide +kernel
theorem dX6_thrust_121 : decode cX6_thrust 121 = .ok (.invokevirtual 169, 3) := by decide +kernel
theorem dX6_thrust_124 : decode cX6_thrust 124 = .ok (.lreturn, 1) := by decide +kernel
theorem dX6_height_0 : decode cX6_height 0 = .ok (.aload_n 0, 1) := by decide +kernel
theorem dX6_height_1 : decode cX6_height 1 = .ok (.getfield 12, 3) := by decide +kernel
theorem dX6_height_4 : decode cX6_height 4 = .ok (.iload_n 1, 1) := by decide +kernel
theorem dX6_height_5 : decode cX6_height 5 = .ok (.invokevirtual 71, 3) := by decide +kernel
theorem dX6_height_8 : decode cX6_height 8 = .ok (.ifCond .eq 10, 3) := by decide +kernel
theorem dX6_height_11 : decode cX6_height 11 = .ok (.iload_n 2, 1) := by decide +kernel
theorem dX6_height_12 : decode cX6_height 12 = .ok (.invokestatic 138, 3) := by decide +kernel
theorem dX6_height_15 : decode cX6_height 15 = .ok (.ifCond .ne 7, 3) := by decide +kernel
theorem dX6_height_18 : decode cX6_height 18 = .ok (.ldc2_w 173, 3) := by decide +kernel
theorem dX6_height_21 : decode cX6_height 21 = .ok (.lreturn, 1) := by decide +kernel
theorem dX6_height_22 : decode cX6_height 22 = .ok (.aload_n 0, 1) := by decide +kernel
theorem dX6_height_23 : decode cX6_height 23 = .ok (.aload_n 0, 1) := by decide +kernel
theorem dX6_height_24 : decode cX6_height 24 = .ok (.getfield 12, 3) := by decide +kernel
theorem dX6_height_27 : decode cX6_height 27 = .ok (.getfield 91, 3) := by decide +kernel
theorem dX6_height_30 : decode cX6_height 30 = .ok (.invokevirtual 134, 3) := by decide +kernel
theorem dX6_height_33 : decode cX6_height 33 = .ok (.ifCond .ne 7, 3) := by decide +kernel
theorem dX6_height_36 : decode cX6_height 36 = .ok (.ldc2_w 175, 3) := by decide +kernel
theorem dX6_height_39 : decode cX6_height 39 = .ok (.lreturn, 1) := by decide +kernel
theorem dX6_height_40 : decode cX6_height 40 = .ok (.aload_n 0, 1) := by decide +kernel
theorem dX6_height_41 : decode cX6_height 41 = .ok (.getfield 21, 3) := by decide +kernel
theorem dX6_height_44 : decode cX6_height 44 = .ok (.aload_n 0, 1) := by decide +kernel
theorem dX6_height_45 : decode cX6_height 45 = .ok (.getfield 52, 3) := by decide +kernel
theorem dX6_height_48 : decode cX6_height 48 = .ok (.invokevirtual 145, 3) := by decide +kernel
theorem dX6_height_51 : decode cX6_height 51 = .ok (.ifCond .ne 7, 3) := by decide +kernel
theorem dX6_height_54 : decode cX6_height 54 = .ok (.ldc2_w 177, 3) := by decide +kernel
theorem dX6_height_57 : decode cX6_height 57 = .ok (.lreturn, 1) := by decide +kernel
theorem dX6_height_58 : decode cX6_height 58 = .ok (.aload_n 0, 1) := by decide +kernel
theorem dX6_height_59 : decode cX6_height 59 = .ok (.getfield 28, 3) := by decide +kernel
theorem dX6_height_62 : decode cX6_height 62 = .ok (.aload_n 0, 1) := by decide +kernel
theorem dX6_height_63 : decode cX6_height 63 = .ok (.getfield 52, 3) := by decide +kernel
theorem dX6_height_66 : decode cX6_height 66 = .ok (.invokevirtual 179, 3) := by decide +kernel
theorem dX6_height_69 : decode cX6_height 69 = .ok (.aload_n 0, 1) := by decide +kernel
theorem dX6_height_70 : decode cX6_height 70 = .ok (.getfield 28, 3) := by decide +kernel
theorem dX6_height_73 : decode cX6_height 73 = .ok (.aload_n 0, 1) := by decide +kernel
theorem dX6_height_74 : decode cX6_height 74 = .ok (.getfield 52, 3) := by decide +kernel
theorem dX6_height_77 : decode cX6_height 77 = .ok (.iload_n 1, 1) := by decide +kernel
theorem dX6_height_78 : decode cX6_height 78 = .ok (.invokevirtual 183, 3) := by decide +kernel
theorem dX6_height_81 : decode cX6_height 81 = .ok (.aload_n 0, 1) := by decide +kernel
theorem dX6_height_82 : decode cX6_height 82 = .ok (.getfield 52, 3) := by decide +kernel
theorem dX6_height_85 : decode cX6_height 85 = .ok (.iload_n 2, 1) := by decide +kernel
theorem dX6_height_86 : decode cX6_height 86 = .ok (.invokevirtual 169, 3) := by decide +kernel
theorem dX6_height_89 : decode cX6_height 89 = .ok (.lreturn, 1) := by decide +kernel
theorem dX6_bar_0 : decode cX6_bar 0 = .ok (.iload_n 1, 1) := by decide +kernel
theorem dX6_bar_1 : decode cX6_bar 1 = .ok (.iconst (-1), 1) := by decide +kernel
theorem dX6_bar_2 : decode cX6_bar 2 = .ok (.if_icmp .lt 8, 3) := by decide +kernel
theorem dX6_bar_5 : decode cX6_bar 5 = .ok (.iload_n 1, 1) := by decide +kernel
theorem dX6_bar_6 : decode cX6_bar 6 = .ok (.iconst 4, 1) := by decide +kernel
theorem dX6_bar_7 : decode cX6_bar 7 = .ok (.if_icmp .lt 5, 3) := by decide +kernel
theorem dX6_bar_10 : decode cX6_bar 10 = .ok (.iconst (-1), 1) := by decide +kernel
theorem dX6_bar_11 : decode cX6_bar 11 = .ok (.ireturn, 1) := by decide +kernel
theorem dX6_bar_12 : decode cX6_bar 12 = .ok (.aload_n 0, 1) := by decide +kernel
theorem dX6_bar_13 : decode cX6_bar 13 = .ok (.aload_n 0, 1) := by decide +kernel
theorem dX6_bar_14 : decode cX6_bar 14 = .ok (.getfield 12, 3) := by decide +kernel
theorem dX6_bar_17 : decode cX6_bar 17 = .ok (.getfield 91, 3) := by decide +kernel
theorem dX6_bar_20 : decode cX6_bar 20 = .ok (.invokevirtual 134, 3) := by decide +kernel
theorem dX6_bar_23 : decode cX6_bar 23 = .ok (.ifCond .eq 6, 3) := by decide +kernel
theorem dX6_bar_26 : decode cX6_bar 26 = .ok (.bipush (-2), 2) := by decide +kernel
theorem dX6_bar_28 : decode cX6_bar 28 = .ok (.ireturn, 1) := by decide +kernel
theorem dX6_bar_29 : decode cX6_bar 29 = .ok (.aload_n 0, 1) := by decide +kernel
theorem dX6_bar_30 : decode cX6_bar 30 = .ok (.getfield 35, 3) := by decide +kernel
theorem dX6_bar_33 : decode cX6_bar 33 = .ok (.invokevirtual 187, 3) := by decide +kernel
theorem dX6_bar_36 : decode cX6_bar 36 = .ok (.iload_n 1, 1) := by decide +kernel
theorem dX6_bar_37 : decode cX6_bar 37 = .ok (.iconst (-1), 1) := by decide +kernel
theorem dX6_bar_38 : decode cX6_bar 38 = .ok (.if_icmp .ne 11, 3) := by decide +kernel
theorem dX6_bar_41 : decode cX6_bar 41 = .ok (.aload_n 0, 1) := by decide +kernel
theorem dX6_bar_42 : decode cX6_bar 42 = .ok (.getfield 35, 3) := by decide +kernel
theorem dX6_bar_45 : decode cX6_bar 45 = .ok (.getfield 190, 3) := by decide +kernel
theorem dX6_bar_48 : decode cX6_bar 48 = .ok (.ireturn, 1) := by decide +kernel
theorem dX6_bar_49 : decode cX6_bar 49 = .ok (.iload_n 1, 1) := by decide +kernel
theorem dX6_bar_50 : decode cX6_bar 50 = .ok (.aload_n 0, 1) := by decide +kernel
theorem dX6_bar_51 : decode cX6_bar 51 = .ok (.getfield 35, 3) := by decide +kernel
theorem dX6_bar_54 : decode cX6_bar 54 = .ok (.getfield 190, 3) := by decide +kernel
theorem dX6_bar_57 : decode cX6_bar 57 = .ok (.if_icmp .ge 15, 3) := by decide +kernel
theorem dX6_bar_60 : decode cX6_bar 60 = .ok (.aload_n 0, 1) := by decide +kernel
theorem dX6_bar_61 : decode cX6_bar 61 = .ok (.getfield 35, 3) := by decide +kernel
theorem dX6_bar_64 : decode cX6_bar 64 = .ok (.getfield 193, 3) := by decide +kernel
theorem dX6_bar_67 : decode cX6_bar 67 = .ok (.iload_n 1, 1) := by decide +kernel
theorem dX6_bar_68 : decode cX6_bar 68 = .ok (.iaload, 1) := by decide +kernel
theorem dX6_bar_69 : decode cX6_bar 69 = .ok (.goto 4, 3) := by decide +kernel
theorem dX6_bar_72 : decode cX6_bar 72 = .ok (.iconst (-1), 1) := by decide +kernel
theorem dX6_bar_73 : decode cX6_bar 73 = .ok (.ireturn, 1) := by decide +kernel
theorem dX6_fits_0 : decode cX6_fits 0 = .ok (.iload_n 1, 1) := by decide +kernel
theorem dX6_fits_1 : decode cX6_fits 1 = .ok (.invokestatic 196, 3) := by decide +kernel
theorem dX6_fits_4 : decode cX6_fits 4 = .ok (.ifCond .eq 10, 3) := by decide +kernel
theorem dX6_fits_7 : decode cX6_fits 7 = .ok (.iload_n 2, 1) := by decide +kernel
theorem dX6_fits_8 : decode cX6_fits 8 = .ok (.invokestatic 196, 3) := by decide +kernel
theorem dX6_fits_11 : decode cX6_fits 11 = .ok (.ifCond .ne 5, 3) := by decide +kernel
theorem dX6_fits_14 : decode cX6_fits 14 = .ok (.iconst (-1), 1) := by decide +kernel
theorem dX6_fits_15 : decode cX6_fits 15 = .ok (.ireturn, 1) := by decide +kernel
theorem dX6_fits_16 : decode cX6_fits 16 = .ok (.iload_n 3, 1) := by decide +kernel
theorem dX6_fits_17 : decode cX6_fits 17 = .ok (.ifCond .lt 24, 3) := by decide +kernel
theorem dX6_fits_20 : decode cX6_fits 20 = .ok (.iload_n 3, 1) := by decide +kernel
theorem dX6_fits_21 : decode cX6_fits 21 = .ok (.sipush 1000, 3) := by decide +kernel
theorem dX6_fits_24 : decode cX6_fits 24 = .ok (.if_icmp .gt 17, 3) := by decide +kernel
theorem dX6_fits_27 : decode cX6_fits 27 = .ok (.iload 4, 2) := by decide +kernel
theorem dX6_fits_29 : decode cX6_fits 29 = .ok (.iconst 1, 1) := by decide +kernel
theorem dX6_fits_30 : decode cX6_fits 30 = .ok (.if_icmp .lt 11, 3) := by decide +kernel
theorem dX6_fits_33 : decode cX6_fits 33 = .ok (.iload 4, 2) := by decide +kernel
theorem dX6_fits_35 : decode cX6_fits 35 = .ok (.sipush 1000, 3) := by decide +kernel
theorem dX6_fits_38 : decode cX6_fits 38 = .ok (.if_icmp .le 5, 3) := by decide +kernel
theorem dX6_fits_41 : decode cX6_fits 41 = .ok (.iconst (-1), 1) := by decide +kernel
theorem dX6_fits_42 : decode cX6_fits 42 = .ok (.ireturn, 1) := by decide +kernel
theorem dX6_fits_43 : decode cX6_fits 43 = .ok (.aload_n 0, 1) := by decide +kernel
theorem dX6_fits_44 : decode cX6_fits 44 = .ok (.getfield 12, 3) := by decide +kernel
theorem dX6_fits_47 : decode cX6_fits 47 = .ok (.aload_n 0, 1) := by decide +kernel
theorem dX6_fits_48 : decode cX6_fits 48 = .ok (.getfield 12, 3) := by decide +kernel
theorem dX6_fits_51 : decode cX6_fits 51 = .ok (.getfield 91, 3) := by decide +kernel
theorem dX6_fits_54 : decode cX6_fits 54 = .ok (.invokevirtual 127, 3) := by decide +kernel
theorem dX6_fits_57 : decode cX6_fits 57 = .ok (.aload_n 0, 1) := by decide +kernel
theorem dX6_fits_58 : decode cX6_fits 58 = .ok (.getfield 12, 3) := by decide +kernel
theorem dX6_fits_61 : decode cX6_fits 61 = .ok (.invokevirtual 161, 3) := by decide +kernel
theorem dX6_fits_64 : decode cX6_fits 64 = .ok (.i2l, 1) := by decide +kernel
theorem dX6_fits_65 : decode cX6_fits 65 = .ok (.lstore 5, 2) := by decide +kernel
theorem dX6_fits_67 : decode cX6_fits 67 = .ok (.iconst 0, 1) := by decide +kernel
theorem dX6_fits_68 : decode cX6_fits 68 = .ok (.istore 7, 2) := by decide +kernel
theorem dX6_fits_70 : decode cX6_fits 70 = .ok (.iload 7, 2) := by decide +kernel
theorem dX6_fits_72 : decode cX6_fits 72 = .ok (.aload_n 0, 1) := by decide +kernel
theorem dX6_fits_73 : decode cX6_fits 73 = .ok (.getfield 12, 3) := by decide +kernel
theorem dX6_fits_76 : decode cX6_fits 76 = .ok (.getfield 64, 3) := by decide +kernel
theorem dX6_fits_79 : decode cX6_fits 79 = .ok (.if_icmp .gt 116, 3) := by decide +kernel
theorem dX6_fits_82 : decode cX6_fits 82 = .ok (.iload_n 1, 1) := by decide +kernel
theorem dX6_fits_83 : decode cX6_fits 83 = .ok (.i2l, 1) := by decide +kernel
theorem dX6_fits_84 : decode cX6_fits 84 = .ok (.lload 5, 2) := by decide +kernel
theorem dX6_fits_86 : decode cX6_fits 86 = .ok (.aload_n 0, 1) := by decide +kernel
theorem dX6_fits_87 : decode cX6_fits 87 = .ok (.getfield 12, 3) := by decide +kernel
theorem dX6_fits_90 : decode cX6_fits 90 = .ok (.getfield 68, 3) := by decide +kernel
theorem dX6_fits_93 : decode cX6_fits 93 = .ok (.iload 7, 2) := by decide +kernel
theorem dX6_fits_95 : decode cX6_fits 95 = .ok (.iaload, 1) := by decide +kernel
theorem dX6_fits_96 : decode cX6_fits 96 = .ok (.i2l, 1) := by decide +kernel
theorem dX6_fits_97 : decode cX6_fits 97 = .ok (.lsub, 1) := by decide +kernel
theorem dX6_fits_98 : decode cX6_fits 98 = .ok (.lmul, 1) := by decide +kernel
theorem dX6_fits_99 : decode cX6_fits 99 = .ok (.iload_n 2, 1) := by decide +kernel
theorem dX6_fits_100 : decode cX6_fits 100 = .ok (.i2l, 1) := by decide +kernel
theorem dX6_fits_101 : decode cX6_fits 101 = .ok (.aload_n 0, 1) := by decide +kernel
theorem dX6_fits_102 : decode cX6_fits 102 = .ok (.getfield 12, 3) := by decide +kernel
theorem dX6_fits_105 : decode cX6_fits 105 = .ok (.getfield 68, 3) := by decide +kernel
theorem dX6_fits_108 : decode cX6_fits 108 = .ok (.iload 7, 2) := by decide +kernel
theorem dX6_fits_110 : decode cX6_fits 110 = .ok (.iaload, 1) := by decide +kernel
theorem dX6_fits_111 : decode cX6_fits 111 = .ok (.i2l, 1) := by decide +kernel
theorem dX6_fits_112 : decode cX6_fits 112 = .ok (.lmul, 1) := by decide +kernel
theorem dX6_fits_113 : decode cX6_fits 113 = .ok (.ladd, 1) := by decide +kernel
theorem dX6_fits_114 : decode cX6_fits 114 = .ok (.lstore 8, 2) := by decide +kernel
theorem dX6_fits_116 : decode cX6_fits 116 = .ok (.lload 8, 2) := by decide +kernel
theorem dX6_fits_118 : decode cX6_fits 118 = .ok (.iload 4, 2) := by decide +kernel
theorem dX6_fits_120 : decode cX6_fits 120 = .ok (.i2l, 1) := by decide +kernel
theorem dX6_fits_121 : decode cX6_fits 121 = .ok (.lmul, 1) := by decide +kernel
theorem dX6_fits_122 : decode cX6_fits 122 = .ok (.aload_n 0, 1) := by decide +kernel
theorem dX6_fits_123 : decode cX6_fits 123 = .ok (.getfield 12, 3) := by decide +kernel
theorem dX6_fits_126 : decode cX6_fits 126 = .ok (.getfield 131, 3) := by decide +kernel
theorem dX6_fits_129 : decode cX6_fits 129 = .ok (.iload 7, 2) := by decide +kernel
theorem dX6_fits_131 : decode cX6_fits 131 = .ok (.iaload, 1) := by decide +kernel
theorem dX6_fits_132 : decode cX6_fits 132 = .ok (.i2l, 1) := by decide +kernel
theorem dX6_fits_133 : decode cX6_fits 133 = .ok (.iload_n 3, 1) := by decide +kernel
theorem dX6_fits_134 : decode cX6_fits 134 = .ok (.i2l, 1) := by decide +kernel
theorem dX6_fits_135 : decode cX6_fits 135 = .ok (.lmul, 1) := by decide +kernel
theorem dX6_fits_136 : decode cX6_fits 136 = .ok (.ladd, 1) := by decide +kernel
theorem dX6_fits_137 : decode cX6_fits 137 = .ok (.lstore 10, 2) := by decide +kernel
theorem dX6_fits_139 : decode cX6_fits 139 = .ok (.lload 10, 2) := by decide +kernel
theorem dX6_fits_141 : decode cX6_fits 141 = .ok (.aload_n 0, 1) := by decide +kernel
theorem dX6_fits_142 : decode cX6_fits 142 = .ok (.getfield 12, 3) := by decide +kernel
theorem dX6_fits_145 : decode cX6_fits 145 = .ok (.getfield 79, 3) := by decide +kernel
theorem dX6_fits_148 : decode cX6_fits 148 = .ok (.iload 7, 2) := by decide +kernel
theorem dX6_fits_150 : decode cX6_fits 150 = .ok (.iaload, 1) := by decide +kernel
theorem dX6_fits_151 : decode cX6_fits 151 = .ok (.i2l, 1) := by decide +kernel
theorem dX6_fits_152 : decode cX6_fits 152 = .ok (.lload 5, 2) := by decide +kernel
theorem dX6_fits_154 : decode cX6_fits 154 = .ok (.lmul, 1) := by decide +kernel
theorem dX6_fits_155 : decode cX6_fits 155 = .ok (.iload 4, 2) := by decide +kernel
theorem dX6_fits_157 : decode cX6_fits 157 = .ok (.i2l, 1) := by decide +kernel
theorem dX6_fits_158 : decode cX6_fits 158 = .ok (.lmul, 1) := by decide +kernel
theorem dX6_fits_159 : decode cX6_fits 159 = .ok (.lcmp, 1) := by decide +kernel
theorem dX6_fits_160 : decode cX6_fits 160 = .ok (.ifCond .lt 27, 3) := by decide +kernel
theorem dX6_fits_163 : decode cX6_fits 163 = .ok (.lload 10, 2) := by decide +kernel
theorem dX6_fits_165 : decode cX6_fits 165 = .ok (.aload_n 0, 1) := by decide +kernel
theorem dX6_fits_166 : decode cX6_fits 166 = .ok (.getfield 12, 3) := by decide +kernel
theorem dX6_fits_169 : decode cX6_fits 169 = .ok (.getfield 82, 3) := by decide +kernel
theorem dX6_fits_172 : decode cX6_fits 172 = .ok (.iload 7, 2) := by decide +kernel
theorem dX6_fits_174 : decode cX6_fits 174 = .ok (.iaload, 1) := by decide +kernel
theorem dX6_fits_175 : decode cX6_fits 175 = .ok (.i2l, 1) := by decide +kernel
theorem dX6_fits_176 : decode cX6_fits 176 = .ok (.lload 5, 2) := by decide +kernel
theorem dX6_fits_178 : decode cX6_fits 178 = .ok (.lmul, 1) := by decide +kernel
theorem dX6_fits_179 : decode cX6_fits 179 = .ok (.iload 4, 2) := by decide +kernel
theorem dX6_fits_181 : decode cX6_fits 181 = .ok (.i2l, 1) := by decide +kernel
theorem dX6_fits_182 : decode cX6_fits 182 = .ok (.lmul, 1) := by decide +kernel
theorem dX6_fits_183 : decode cX6_fits 183 = .ok (.lcmp, 1) := by decide +kernel
theorem dX6_fits_184 : decode cX6_fits 184 = .ok (.ifCond .le 5, 3) := by decide +kernel
theorem dX6_fits_187 : decode cX6_fits 187 = .ok (.iconst 0, 1) := by decide +kernel
theorem dX6_fits_188 : decode cX6_fits 188 = .ok (.ireturn, 1) := by decide +kernel
theorem dX6_fits_189 : decode cX6_fits 189 = .ok (.iinc 7 1, 3) := by decide +kernel
theorem dX6_fits_192 : decode cX6_fits 192 = .ok (.goto (-122), 3) := by decide +kernel
theorem dX6_fits_195 : decode cX6_fits 195 = .ok (.iconst 1, 1) := by decide +kernel
theorem dX6_fits_196 : decode cX6_fits 196 = .ok (.ireturn, 1) := by decide +kernel
theorem dX6_factor_0 : decode cX6_factor 0 = .ok (.iload_n 1, 1) := by decide +kernel
theorem dX6_factor_1 : decode cX6_factor 1 = .ok (.invokestatic 138, 3) := by decide +kernel
theorem dX6_factor_4 : decode cX6_factor 4 = .ok (.ifCond .ne 7, 3) := by decide +kernel
theorem dX6_factor_7 : decode cX6_factor 7 = .ok (.ldc2_w 141, 3) := by decide +kernel
theorem dX6_factor_10 : decode cX6_factor 10 = .ok (.lreturn, 1) := by decide +kernel
theorem dX6_factor_11 : decode cX6_factor 11 = .ok (.aload_n 0, 1) := by decide +kernel
theorem dX6_factor_12 : decode cX6_factor 12 = .ok (.getfield 21, 3) := by decide +kernel
theorem dX6_factor_15 : decode cX6_factor 15 = .ok (.aload_n 0, 1) := by decide +kernel
theorem dX6_factor_16 : decode cX6_factor 16 = .ok (.getfield 12, 3) := by decide +kernel
theorem dX6_factor_19 : decode cX6_factor 19 = .ok (.getfield 91, 3) := by decide +kernel
theorem dX6_factor_22 : decode cX6_factor 22 = .ok (.invokevirtual 199, 3) := by decide +kernel
theorem dX6_factor_25 : decode cX6_factor 25 = .ok (.aload_n 0, 1) := by decide +kernel
theorem dX6_factor_26 : decode cX6_factor 26 = .ok (.getfield 21, 3) := by decide +kernel
theorem dX6_factor_29 : decode cX6_factor 29 = .ok (.aload_n 0, 1) := by decide +kernel
theorem dX6_factor_30 : decode cX6_factor 30 = .ok (.getfield 52, 3) := by decide +kernel
theorem dX6_factor_33 : decode cX6_factor 33 = .ok (.invokevirtual 202, 3) := by decide +kernel
theorem dX6_factor_36 : decode cX6_factor 36 = .ok (.ifCond .ne 7, 3) := by decide +kernel
theorem dX6_factor_39 : decode cX6_factor 39 = .ok (.ldc2_w 156, 3) := by decide +kernel
theorem dX6_factor_42 : decode cX6_factor 42 = .ok (.lreturn, 1) := by decide +kernel
theorem dX6_factor_43 : decode cX6_factor 43 = .ok (.aload_n 0, 1) := by decide +kernel
theorem dX6_factor_44 : decode cX6_factor 44 = .ok (.getfield 52, 3) := by decide +kernel
theorem dX6_factor_47 : decode cX6_factor 47 = .ok (.iload_n 1, 1) := by decide +kernel
theorem dX6_factor_48 : decode cX6_factor 48 = .ok (.invokevirtual 169, 3) := by decide +kernel
theorem dX6_factor_51 : decode cX6_factor 51 = .ok (.lreturn, 1) := by decide +kernel
theorem dX6_harms_0 : decode cX6_harms 0 = .ok (.iload_n 1, 1) := by decide +kernel
theorem dX6_harms_1 : decode cX6_harms 1 = .ok (.iconst 1, 1) := by decide +kernel
theorem dX6_harms_2 : decode cX6_harms 2 = .ok (.if_icmp .lt 9, 3) := by decide +kernel
theorem dX6_harms_5 : decode cX6_harms 5 = .ok (.iload_n 1, 1) := by decide +kernel
theorem dX6_harms_6 : decode cX6_harms 6 = .ok (.bipush 10, 2) := by decide +kernel
theorem dX6_harms_8 : decode cX6_harms 8 = .ok (.if_icmp .le 5, 3) := by decide +kernel
theorem dX6_harms_11 : decode cX6_harms 11 = .ok (.iconst (-1), 1) := by decide +kernel
theorem dX6_harms_12 : decode cX6_harms 12 = .ok (.ireturn, 1) := by decide +kernel
theorem dX6_harms_13 : decode cX6_harms 13 = .ok (.iconst 1, 1) := by decide +kernel
theorem dX6_harms_14 : decode cX6_harms 14 = .ok (.istore_n 2, 1) := by decide +kernel
theorem dX6_harms_15 : decode cX6_harms 15 = .ok (.aload_n 0, 1) := by decide +kernel
theorem dX6_harms_16 : decode cX6_harms 16 = .ok (.getfield 56, 3) := by decide +kernel
theorem dX6_harms_19 : decode cX6_harms 19 = .ok (.lconst 0, 1) := by decide +kernel
theorem dX6_harms_20 : decode cX6_harms 20 = .ok (.lconst 1, 1) := by decide +kernel
theorem dX6_harms_21 : decode cX6_harms 21 = .ok (.invokevirtual 165, 3) := by decide +kernel
theorem dX6_harms_24 : decode cX6_harms 24 = .ok (.iconst 1, 1) := by decide +kernel
theorem dX6_harms_25 : decode cX6_harms 25 = .ok (.istore_n 3, 1) := by decide +kernel
theorem dX6_harms_26 : decode cX6_harms 26 = .ok (.iload_n 3, 1) := by decide +kernel
theorem dX6_harms_27 : decode cX6_harms 27 = .ok (.aload_n 0, 1) := by decide +kernel
theorem dX6_harms_28 : decode cX6_harms 28 = .ok (.getfield 12, 3) := by decide +kernel
theorem dX6_harms_31 : decode cX6_harms 31 = .ok (.getfield 64, 3) := by decide +kernel
theorem dX6_harms_34 : decode cX6_harms 34 = .ok (.if_icmp .ge 101, 3) := by decide +kernel
theorem dX6_harms_37 : decode cX6_harms 37 = .ok (.aload_n 0, 1) := by decide +kernel
theorem dX6_harms_38 : decode cX6_harms 38 = .ok (.getfield 12, 3) := by decide +kernel
theorem dX6_harms_41 : decode cX6_harms 41 = .ok (.getfield 91, 3) := by decide +kernel
theorem dX6_harms_44 : decode cX6_harms 44 = .ok (.iconst 0, 1) := by decide +kernel
theorem dX6_harms_45 : decode cX6_harms 45 = .ok (.aload_n 0, 1) := by decide +kernel
theorem dX6_harms_46 : decode cX6_harms 46 = .ok (.getfield 45, 3) := by decide +kernel
theorem dX6_harms_49 : decode cX6_harms 49 = .ok (.iconst 0, 1) := by decide +kernel
theorem dX6_harms_50 : decode cX6_harms 50 = .ok (.bipush 7, 2) := by decide +kernel
theorem dX6_harms_52 : decode cX6_harms 52 = .ok (.invokestatic 205, 3) := by decide +kernel
theorem dX6_harms_55 : decode cX6_harms 55 = .ok (.aload_n 0, 1) := by decide +kernel
end
section
theorem dX6_harms_56 : decode cX6_harms 56 = .ok (.getfield 45, 3) := by decide +kernel
theorem dX6_harms_59 : decode cX6_harms 59 = .ok (.iload_n 3, 1) := by decide +kernel
theorem dX6_harms_60 : decode cX6_harms 60 = .ok (.dup2, 1) := by decide +kernel
theorem dX6_harms_61 : decode cX6_harms 61 = .ok (.iaload, 1) := by decide +kernel
theorem dX6_harms_62 : decode cX6_harms 62 = .ok (.iload_n 1, 1) := by decide +kernel
theorem dX6_harms_63 : decode cX6_harms 63 = .ok (.iadd, 1) := by decide +kernel
theorem dX6_harms_64 : decode cX6_harms 64 = .ok (.iastore, 1) := by decide +kernel
theorem dX6_harms_65 : decode cX6_harms 65 = .ok (.aload_n 0, 1) := by decide +kernel
theorem dX6_harms_66 : decode cX6_harms 66 = .ok (.getfield 21, 3) := by decide +kernel
theorem dX6_harms_69 : decode cX6_harms 69 = .ok (.aload_n 0, 1) := by decide +kernel
theorem dX6_harms_70 : decode cX6_harms 70 = .ok (.getfield 45, 3) := by decide +kernel
theorem dX6_harms_73 : decode cX6_harms 73 = .ok (.invokevirtual 199, 3) := by decide +kernel
theorem dX6_harms_76 : decode cX6_harms 76 = .ok (.aload_n 0, 1) := by decide +kernel
theorem dX6_harms_77 : decode cX6_harms 77 = .ok (.getfield 21, 3) := by decide +kernel
theorem dX6_harms_80 : decode cX6_harms 80 = .ok (.aload_n 0, 1) := by decide +kernel
theorem dX6_harms_81 : decode cX6_harms 81 = .ok (.getfield 52, 3) := by decide +kernel
theorem dX6_harms_84 : decode cX6_harms 84 = .ok (.invokevirtual 202, 3) := by decide +kernel
theorem dX6_harms_87 : decode cX6_harms 87 = .ok (.ifCond .ne 5, 3) := by decide +kernel
theorem dX6_harms_90 : decode cX6_harms 90 = .ok (.iload_n 3, 1) := by decide +kernel
theorem dX6_harms_91 : decode cX6_harms 91 = .ok (.ireturn, 1) := by decide +kernel
theorem dX6_harms_92 : decode cX6_harms 92 = .ok (.aload_n 0, 1) := by decide +kernel
theorem dX6_harms_93 : decode cX6_harms 93 = .ok (.getfield 52, 3) := by decide +kernel
theorem dX6_harms_96 : decode cX6_harms 96 = .ok (.aload_n 0, 1) := by decide +kernel
theorem dX6_harms_97 : decode cX6_harms 97 = .ok (.getfield 56, 3) := by decide +kernel
theorem dX6_harms_100 : decode cX6_harms 100 = .ok (.invokevirtual 211, 3) := by decide +kernel
theorem dX6_harms_103 : decode cX6_harms 103 = .ok (.ifCond .eq 26, 3) := by decide +kernel
theorem dX6_harms_106 : decode cX6_harms 106 = .ok (.aload_n 0, 1) := by decide +kernel
theorem dX6_harms_107 : decode cX6_harms 107 = .ok (.getfield 56, 3) := by decide +kernel
theorem dX6_harms_110 : decode cX6_harms 110 = .ok (.aload_n 0, 1) := by decide +kernel
theorem dX6_harms_111 : decode cX6_harms 111 = .ok (.getfield 52, 3) := by decide +kernel
theorem dX6_harms_114 : decode cX6_harms 114 = .ok (.getfield 152, 3) := by decide +kernel
theorem dX6_harms_117 : decode cX6_harms 117 = .ok (.aload_n 0, 1) := by decide +kernel
theorem dX6_harms_118 : decode cX6_harms 118 = .ok (.getfield 52, 3) := by decide +kernel
theorem dX6_harms_121 : decode cX6_harms 121 = .ok (.getfield 158, 3) := by decide +kernel
theorem dX6_harms_124 : decode cX6_harms 124 = .ok (.invokevirtual 165, 3) := by decide +kernel
theorem dX6_harms_127 : decode cX6_harms 127 = .ok (.iload_n 3, 1) := by decide +kernel
theorem dX6_harms_128 : decode cX6_harms 128 = .ok (.istore_n 2, 1) := by decide +kernel
theorem dX6_harms_129 : decode cX6_harms 129 = .ok (.iinc 3 1, 3) := by decide +kernel
theorem dX6_harms_132 : decode cX6_harms 132 = .ok (.goto (-106), 3) := by decide +kernel
theorem dX6_harms_135 : decode cX6_harms 135 = .ok (.iload_n 2, 1) := by decide +kernel
theorem dX6_harms_136 : decode cX6_harms 136 = .ok (.ireturn, 1) := by decide +kernel
theorem dX6_falls_0 : decode cX6_falls 0 = .ok (.aload_n 0, 1) := by decide +kernel
theorem dX6_falls_1 : decode cX6_falls 1 = .ok (.getfield 12, 3) := by decide +kernel
theorem dX6_falls_4 : decode cX6_falls 4 = .ok (.getfield 64, 3) := by decide +kernel
theorem dX6_falls_7 : decode cX6_falls 7 = .ok (.iconst 2, 1) := by decide +kernel
theorem dX6_falls_8 : decode cX6_falls 8 = .ok (.idiv, 1) := by decide +kernel
theorem dX6_falls_9 : decode cX6_falls 9 = .ok (.istore_n 1, 1) := by decide +kernel
theorem dX6_falls_10 : decode cX6_falls 10 = .ok (.iconst 0, 1) := by decide +kernel
theorem dX6_falls_11 : decode cX6_falls 11 = .ok (.istore_n 2, 1) := by decide +kernel
theorem dX6_falls_12 : decode cX6_falls 12 = .ok (.iload_n 2, 1) := by decide +kernel
theorem dX6_falls_13 : decode cX6_falls 13 = .ok (.iload_n 1, 1) := by decide +kernel
theorem dX6_falls_14 : decode cX6_falls 14 = .ok (.if_icmp .gt 90, 3) := by decide +kernel
theorem dX6_falls_17 : decode cX6_falls 17 = .ok (.iconst 0, 1) := by decide +kernel
theorem dX6_falls_18 : decode cX6_falls 18 = .ok (.istore_n 3, 1) := by decide +kernel
theorem dX6_falls_19 : decode cX6_falls 19 = .ok (.iload_n 3, 1) := by decide +kernel
theorem dX6_falls_20 : decode cX6_falls 20 = .ok (.aload_n 0, 1) := by decide +kernel
theorem dX6_falls_21 : decode cX6_falls 21 = .ok (.getfield 12, 3) := by decide +kernel
theorem dX6_falls_24 : decode cX6_falls 24 = .ok (.getfield 64, 3) := by decide +kernel
theorem dX6_falls_27 : decode cX6_falls 27 = .ok (.if_icmp .gt 58, 3) := by decide +kernel
theorem dX6_falls_30 : decode cX6_falls 30 = .ok (.iload_n 3, 1) := by decide +kernel
theorem dX6_falls_31 : decode cX6_falls 31 = .ok (.iload_n 2, 1) := by decide +kernel
theorem dX6_falls_32 : decode cX6_falls 32 = .ok (.if_icmp .le 16, 3) := by decide +kernel
theorem dX6_falls_35 : decode cX6_falls 35 = .ok (.iload_n 3, 1) := by decide +kernel
theorem dX6_falls_36 : decode cX6_falls 36 = .ok (.aload_n 0, 1) := by decide +kernel
theorem dX6_falls_37 : decode cX6_falls 37 = .ok (.getfield 12, 3) := by decide +kernel
theorem dX6_falls_40 : decode cX6_falls 40 = .ok (.getfield 64, 3) := by decide +kernel
theorem dX6_falls_43 : decode cX6_falls 43 = .ok (.iload_n 2, 1) := by decide +kernel
theorem dX6_falls_44 : decode cX6_falls 44 = .ok (.isub, 1) := by decide +kernel
theorem dX6_falls_45 : decode cX6_falls 45 = .ok (.if_icmp .lt 7, 3) := by decide +kernel
theorem dX6_falls_48 : decode cX6_falls 48 = .ok (.iconst 1, 1) := by decide +kernel
theorem dX6_falls_49 : decode cX6_falls 49 = .ok (.goto 4, 3) := by decide +kernel
theorem dX6_falls_52 : decode cX6_falls 52 = .ok (.iconst 0, 1) := by decide +kernel
theorem dX6_falls_53 : decode cX6_falls 53 = .ok (.istore 4, 2) := by decide +kernel
theorem dX6_falls_55 : decode cX6_falls 55 = .ok (.aload_n 0, 1) := by decide +kernel
theorem dX6_falls_56 : decode cX6_falls 56 = .ok (.getfield 45, 3) := by decide +kernel
theorem dX6_falls_59 : decode cX6_falls 59 = .ok (.iload_n 3, 1) := by decide +kernel
theorem dX6_falls_60 : decode cX6_falls 60 = .ok (.iload 4, 2) := by decide +kernel
theorem dX6_falls_62 : decode cX6_falls 62 = .ok (.ifCond .eq 15, 3) := by decide +kernel
theorem dX6_falls_65 : decode cX6_falls 65 = .ok (.aload_n 0, 1) := by decide +kernel
theorem dX6_falls_66 : decode cX6_falls 66 = .ok (.getfield 12, 3) := by decide +kernel
theorem dX6_falls_69 : decode cX6_falls 69 = .ok (.getfield 91, 3) := by decide +kernel
theorem dX6_falls_72 : decode cX6_falls 72 = .ok (.iload_n 3, 1) := by decide +kernel
theorem dX6_falls_73 : decode cX6_falls 73 = .ok (.iaload, 1) := by decide +kernel
theorem dX6_falls_74 : decode cX6_falls 74 = .ok (.goto 4, 3) := by decide +kernel
theorem dX6_falls_77 : decode cX6_falls 77 = .ok (.iconst 0, 1) := by decide +kernel
theorem dX6_falls_78 : decode cX6_falls 78 = .ok (.iastore, 1) := by decide +kernel
theorem dX6_falls_79 : decode cX6_falls 79 = .ok (.iinc 3 1, 3) := by decide +kernel
theorem dX6_falls_82 : decode cX6_falls 82 = .ok (.goto (-63), 3) := by decide +kernel
theorem dX6_falls_85 : decode cX6_falls 85 = .ok (.aload_n 0, 1) := by decide +kernel
theorem dX6_falls_86 : decode cX6_falls 86 = .ok (.aload_n 0, 1) := by decide +kernel
theorem dX6_falls_87 : decode cX6_falls 87 = .ok (.getfield 45, 3) := by decide +kernel
theorem dX6_falls_90 : decode cX6_falls 90 = .ok (.invokevirtual 134, 3) := by decide +kernel
theorem dX6_falls_93 : decode cX6_falls 93 = .ok (.ifCond .ne 5, 3) := by decide +kernel
theorem dX6_falls_96 : decode cX6_falls 96 = .ok (.iload_n 2, 1) := by decide +kernel
theorem dX6_falls_97 : decode cX6_falls 97 = .ok (.ireturn, 1) := by decide +kernel
theorem dX6_falls_98 : decode cX6_falls 98 = .ok (.iinc 2 1, 3) := by decide +kernel
theorem dX6_falls_101 : decode cX6_falls 101 = .ok (.goto (-89), 3) := by decide +kernel
theorem dX6_falls_104 : decode cX6_falls 104 = .ok (.bipush (-4), 2) := by decide +kernel
theorem dX6_falls_106 : decode cX6_falls 106 = .ok (.ireturn, 1) := by decide +kernel
theorem dX6_spread_0 : decode cX6_spread 0 = .ok (.iload_n 1, 1) := by decide +kernel
theorem dX6_spread_1 : decode cX6_spread 1 = .ok (.bipush (-10), 2) := by decide +kernel
theorem dX6_spread_3 : decode cX6_spread 3 = .ok (.if_icmp .lt 9, 3) := by decide +kernel
theorem dX6_spread_6 : decode cX6_spread 6 = .ok (.iload_n 1, 1) := by decide +kernel
theorem dX6_spread_7 : decode cX6_spread 7 = .ok (.bipush 10, 2) := by decide +kernel
theorem dX6_spread_9 : decode cX6_spread 9 = .ok (.if_icmp .le 5, 3) := by decide +kernel
theorem dX6_spread_12 : decode cX6_spread 12 = .ok (.iconst (-1), 1) := by decide +kernel
theorem dX6_spread_13 : decode cX6_spread 13 = .ok (.ireturn, 1) := by decide +kernel
theorem dX6_spread_14 : decode cX6_spread 14 = .ok (.aload_n 0, 1) := by decide +kernel
theorem dX6_spread_15 : decode cX6_spread 15 = .ok (.getfield 12, 3) := by decide +kernel
theorem dX6_spread_18 : decode cX6_spread 18 = .ok (.invokevirtual 161, 3) := by decide +kernel
theorem dX6_spread_21 : decode cX6_spread 21 = .ok (.iload_n 1, 1) := by decide +kernel
theorem dX6_spread_22 : decode cX6_spread 22 = .ok (.iadd, 1) := by decide +kernel
theorem dX6_spread_23 : decode cX6_spread 23 = .ok (.istore_n 2, 1) := by decide +kernel
theorem dX6_spread_24 : decode cX6_spread 24 = .ok (.iload_n 2, 1) := by decide +kernel
theorem dX6_spread_25 : decode cX6_spread 25 = .ok (.aload_n 0, 1) := by decide +kernel
theorem dX6_spread_26 : decode cX6_spread 26 = .ok (.getfield 12, 3) := by decide +kernel
theorem dX6_spread_29 : decode cX6_spread 29 = .ok (.getfield 68, 3) := by decide +kernel
theorem dX6_spread_32 : decode cX6_spread 32 = .ok (.aload_n 0, 1) := by decide +kernel
theorem dX6_spread_33 : decode cX6_spread 33 = .ok (.getfield 12, 3) := by decide +kernel
theorem dX6_spread_36 : decode cX6_spread 36 = .ok (.getfield 64, 3) := by decide +kernel
theorem dX6_spread_39 : decode cX6_spread 39 = .ok (.iconst 1, 1) := by decide +kernel
theorem dX6_spread_40 : decode cX6_spread 40 = .ok (.isub, 1) := by decide +kernel
theorem dX6_spread_41 : decode cX6_spread 41 = .ok (.iaload, 1) := by decide +kernel
theorem dX6_spread_42 : decode cX6_spread 42 = .ok (.if_icmp .le 9, 3) := by decide +kernel
theorem dX6_spread_45 : decode cX6_spread 45 = .ok (.iload_n 2, 1) := by decide +kernel
theorem dX6_spread_46 : decode cX6_spread 46 = .ok (.bipush 20, 2) := by decide +kernel
theorem dX6_spread_48 : decode cX6_spread 48 = .ok (.if_icmp .le 6, 3) := by decide +kernel
theorem dX6_spread_51 : decode cX6_spread 51 = .ok (.bipush (-2), 2) := by decide +kernel
theorem dX6_spread_53 : decode cX6_spread 53 = .ok (.ireturn, 1) := by decide +kernel
theorem dX6_spread_54 : decode cX6_spread 54 = .ok (.aload_n 0, 1) := by decide +kernel
theorem dX6_spread_55 : decode cX6_spread 55 = .ok (.getfield 12, 3) := by decide +kernel
theorem dX6_spread_58 : decode cX6_spread 58 = .ok (.getfield 68, 3) := by decide +kernel
theorem dX6_spread_61 : decode cX6_spread 61 = .ok (.aload_n 0, 1) := by decide +kernel
theorem dX6_spread_62 : decode cX6_spread 62 = .ok (.getfield 12, 3) := by decide +kernel
theorem dX6_spread_65 : decode cX6_spread 65 = .ok (.getfield 64, 3) := by decide +kernel
theorem dX6_spread_68 : decode cX6_spread 68 = .ok (.iload_n 2, 1) := by decide +kernel
theorem dX6_spread_69 : decode cX6_spread 69 = .ok (.iastore, 1) := by decide +kernel
theorem dX6_spread_70 : decode cX6_spread 70 = .ok (.iconst 1, 1) := by decide +kernel
theorem dX6_spread_71 : decode cX6_spread 71 = .ok (.ireturn, 1) := by decide +kernel
theorem dX6_holdsUnder_0 : decode cX6_holdsUnder 0 = .ok (.aload_n 0, 1) := by decide +kernel
theorem dX6_holdsUnder_1 : decode cX6_holdsUnder 1 = .ok (.getfield 21, 3) := by decide +kernel
theorem dX6_holdsUnder_4 : decode cX6_holdsUnder 4 = .ok (.aload_n 1, 1) := by decide +kernel
theorem dX6_holdsUnder_5 : decode cX6_holdsUnder 5 = .ok (.invokevirtual 199, 3) := by decide +kernel
theorem dX6_holdsUnder_8 : decode cX6_holdsUnder 8 = .ok (.aload_n 0, 1) := by decide +kernel
theorem dX6_holdsUnder_9 : decode cX6_holdsUnder 9 = .ok (.getfield 21, 3) := by decide +kernel
theorem dX6_holdsUnder_12 : decode cX6_holdsUnder 12 = .ok (.invokevirtual 214, 3) := by decide +kernel
theorem dX6_holdsUnder_15 : decode cX6_holdsUnder 15 = .ok (.ireturn, 1) := by decide +kernel
theorem dX6_refusalOfRow_0 : decode cX6_refusalOfRow 0 = .ok (.iload_n 1, 1) := by decide +kernel
theorem dX6_refusalOfRow_1 : decode cX6_refusalOfRow 1 = .ok (.invokestatic 94, 3) := by decide +kernel
theorem dX6_refusalOfRow_4 : decode cX6_refusalOfRow 4 = .ok (.ifCond .eq 10, 3) := by decide +kernel
theorem dX6_refusalOfRow_7 : decode cX6_refusalOfRow 7 = .ok (.iload_n 2, 1) := by decide +kernel
theorem dX6_refusalOfRow_8 : decode cX6_refusalOfRow 8 = .ok (.invokestatic 97, 3) := by decide +kernel
theorem dX6_refusalOfRow_11 : decode cX6_refusalOfRow 11 = .ok (.ifCond .ne 5, 3) := by decide +kernel
theorem dX6_refusalOfRow_14 : decode cX6_refusalOfRow 14 = .ok (.iconst (-1), 1) := by decide +kernel
theorem dX6_refusalOfRow_15 : decode cX6_refusalOfRow 15 = .ok (.ireturn, 1) := by decide +kernel
theorem dX6_refusalOfRow_16 : decode cX6_refusalOfRow 16 = .ok (.aload_n 0, 1) := by decide +kernel
theorem dX6_refusalOfRow_17 : decode cX6_refusalOfRow 17 = .ok (.getfield 41, 3) := by decide +kernel
theorem dX6_refusalOfRow_20 : decode cX6_refusalOfRow 20 = .ok (.iload_n 1, 1) := by decide +kernel
theorem dX6_refusalOfRow_21 : decode cX6_refusalOfRow 21 = .ok (.aaload, 1) := by decide +kernel
theorem dX6_refusalOfRow_22 : decode cX6_refusalOfRow 22 = .ok (.getfield 104, 3) := by decide +kernel
theorem dX6_refusalOfRow_25 : decode cX6_refusalOfRow 25 = .ok (.ifCond .ne 6, 3) := by decide +kernel
theorem dX6_refusalOfRow_28 : decode cX6_refusalOfRow 28 = .ok (.bipush (-11), 2) := by decide +kernel
theorem dX6_refusalOfRow_30 : decode cX6_refusalOfRow 30 = .ok (.ireturn, 1) := by decide +kernel
theorem dX6_refusalOfRow_31 : decode cX6_refusalOfRow 31 = .ok (.aload_n 0, 1) := by decide +kernel
theorem dX6_refusalOfRow_32 : decode cX6_refusalOfRow 32 = .ok (.getfield 41, 3) := by decide +kernel
theorem dX6_refusalOfRow_35 : decode cX6_refusalOfRow 35 = .ok (.iload_n 1, 1) := by decide +kernel
theorem dX6_refusalOfRow_36 : decode cX6_refusalOfRow 36 = .ok (.aaload, 1) := by decide +kernel
theorem dX6_refusalOfRow_37 : decode cX6_refusalOfRow 37 = .ok (.getfield 217, 3) := by decide +kernel
theorem dX6_refusalOfRow_40 : decode cX6_refusalOfRow 40 = .ok (.iload_n 2, 1) := by decide +kernel
theorem dX6_refusalOfRow_41 : decode cX6_refusalOfRow 41 = .ok (.if_icmp .ne 7, 3) := by decide +kernel
theorem dX6_refusalOfRow_44 : decode cX6_refusalOfRow 44 = .ok (.iconst 0, 1) := by decide +kernel
theorem dX6_refusalOfRow_45 : decode cX6_refusalOfRow 45 = .ok (.goto 5, 3) := by decide +kernel
theorem dX6_refusalOfRow_48 : decode cX6_refusalOfRow 48 = .ok (.bipush (-12), 2) := by decide +kernel
theorem dX6_refusalOfRow_50 : decode cX6_refusalOfRow 50 = .ok (.ireturn, 1) := by decide +kernel
theorem dX6_isSheet_0 : decode cX6_isSheet 0 = .ok (.iload_n 0, 1) := by decide +kernel
theorem dX6_isSheet_1 : decode cX6_isSheet 1 = .ok (.ifCond .lt 12, 3) := by decide +kernel
theorem dX6_isSheet_4 : decode cX6_isSheet 4 = .ok (.iload_n 0, 1) := by decide +kernel
theorem dX6_isSheet_5 : decode cX6_isSheet 5 = .ok (.iconst 4, 1) := by decide +kernel
theorem dX6_isSheet_6 : decode cX6_isSheet 6 = .ok (.if_icmp .ge 7, 3) := by decide +kernel
theorem dX6_isSheet_9 : decode cX6_isSheet 9 = .ok (.iconst 1, 1) := by decide +kernel
theorem dX6_isSheet_10 : decode cX6_isSheet 10 = .ok (.goto 4, 3) := by decide +kernel
theorem dX6_isSheet_13 : decode cX6_isSheet 13 = .ok (.iconst 0, 1) := by decide +kernel
theorem dX6_isSheet_14 : decode cX6_isSheet 14 = .ok (.ireturn, 1) := by decide +kernel
theorem dX6_isLane_0 : decode cX6_isLane 0 = .ok (.iload_n 0, 1) := by decide +kernel
theorem dX6_isLane_1 : decode cX6_isLane 1 = .ok (.ifCond .lt 12, 3) := by decide +kernel
theorem dX6_isLane_4 : decode cX6_isLane 4 = .ok (.iload_n 0, 1) := by decide +kernel
theorem dX6_isLane_5 : decode cX6_isLane 5 = .ok (.iconst 3, 1) := by decide +kernel
theorem dX6_isLane_6 : decode cX6_isLane 6 = .ok (.if_icmp .ge 7, 3) := by decide +kernel
theorem dX6_isLane_9 : decode cX6_isLane 9 = .ok (.iconst 1, 1) := by decide +kernel
theorem dX6_isLane_10 : decode cX6_isLane 10 = .ok (.goto 4, 3) := by decide +kernel
theorem dX6_isLane_13 : decode cX6_isLane 13 = .ok (.iconst 0, 1) := by decide +kernel
theorem dX6_isLane_14 : decode cX6_isLane 14 = .ok (.ireturn, 1) := by decide +kernel
theorem dX6_isChoice_0 : decode cX6_isChoice 0 = .ok (.iload_n 0, 1) := by decide +kernel
theorem dX6_isChoice_1 : decode cX6_isChoice 1 = .ok (.ifCond .eq 8, 3) := by decide +kernel
theorem dX6_isChoice_4 : decode cX6_isChoice 4 = .ok (.iload_n 0, 1) := by decide +kernel
theorem dX6_isChoice_5 : decode cX6_isChoice 5 = .ok (.iconst 1, 1) := by decide +kernel
theorem dX6_isChoice_6 : decode cX6_isChoice 6 = .ok (.if_icmp .ne 7, 3) := by decide +kernel
theorem dX6_isChoice_9 : decode cX6_isChoice 9 = .ok (.iconst 1, 1) := by decide +kernel
theorem dX6_isChoice_10 : decode cX6_isChoice 10 = .ok (.goto 4, 3) := by decide +kernel
theorem dX6_isChoice_13 : decode cX6_isChoice 13 = .ok (.iconst 0, 1) := by decide +kernel
theorem dX6_isChoice_14 : decode cX6_isChoice 14 = .ok (.ireturn, 1) := by decide +kernel
theorem dX6_isHeight_0 : decode cX6_isHeight 0 = .ok (.iload_n 0, 1) := by decide +kernel
theorem dX6_isHeight_1 : decode cX6_isHeight 1 = .ok (.bipush (-20), 2) := by decide +kernel
theorem dX6_isHeight_3 : decode cX6_isHeight 3 = .ok (.if_icmp .lt 13, 3) := by decide +kernel
theorem dX6_isHeight_6 : decode cX6_isHeight 6 = .ok (.iload_n 0, 1) := by decide +kernel
theorem dX6_isHeight_7 : decode cX6_isHeight 7 = .ok (.bipush 20, 2) := by decide +kernel
theorem dX6_isHeight_9 : decode cX6_isHeight 9 = .ok (.if_icmp .gt 7, 3) := by decide +kernel
theorem dX6_isHeight_12 : decode cX6_isHeight 12 = .ok (.iconst 1, 1) := by decide +kernel
theorem dX6_isHeight_13 : decode cX6_isHeight 13 = .ok (.goto 4, 3) := by decide +kernel
theorem dX6_isHeight_16 : decode cX6_isHeight 16 = .ok (.iconst 0, 1) := by decide +kernel
theorem dX6_isHeight_17 : decode cX6_isHeight 17 = .ok (.ireturn, 1) := by decide +kernel
theorem dX6_areEdges_0 : decode cX6_areEdges 0 = .ok (.iload_n 0, 1) := by decide +kernel
theorem dX6_areEdges_1 : decode cX6_areEdges 1 = .ok (.invokestatic 196, 3) := by decide +kernel
theorem dX6_areEdges_4 : decode cX6_areEdges 4 = .ok (.ifCond .eq 19, 3) := by decide +kernel
theorem dX6_areEdges_7 : decode cX6_areEdges 7 = .ok (.iload_n 1, 1) := by decide +kernel
theorem dX6_areEdges_8 : decode cX6_areEdges 8 = .ok (.invokestatic 196, 3) := by decide +kernel
theorem dX6_areEdges_11 : decode cX6_areEdges 11 = .ok (.ifCond .eq 12, 3) := by decide +kernel
theorem dX6_areEdges_14 : decode cX6_areEdges 14 = .ok (.iload_n 0, 1) := by decide +kernel
theorem dX6_areEdges_15 : decode cX6_areEdges 15 = .ok (.iload_n 1, 1) := by decide +kernel
theorem dX6_areEdges_16 : decode cX6_areEdges 16 = .ok (.if_icmp .gt 7, 3) := by decide +kernel
theorem dX6_areEdges_19 : decode cX6_areEdges 19 = .ok (.iconst 1, 1) := by decide +kernel
theorem dX6_areEdges_20 : decode cX6_areEdges 20 = .ok (.goto 4, 3) := by decide +kernel
theorem dX6_areEdges_23 : decode cX6_areEdges 23 = .ok (.iconst 0, 1) := by decide +kernel
theorem dX6_areEdges_24 : decode cX6_areEdges 24 = .ok (.ireturn, 1) := by decide +kernel
theorem dX6_isLoad_0 : decode cX6_isLoad 0 = .ok (.iload_n 0, 1) := by decide +kernel
theorem dX6_isLoad_1 : decode cX6_isLoad 1 = .ok (.ifCond .lt 13, 3) := by decide +kernel
theorem dX6_isLoad_4 : decode cX6_isLoad 4 = .ok (.iload_n 0, 1) := by decide +kernel
theorem dX6_isLoad_5 : decode cX6_isLoad 5 = .ok (.bipush 10, 2) := by decide +kernel
theorem dX6_isLoad_7 : decode cX6_isLoad 7 = .ok (.if_icmp .gt 7, 3) := by decide +kernel
theorem dX6_isLoad_10 : decode cX6_isLoad 10 = .ok (.iconst 1, 1) := by decide +kernel
theorem dX6_isLoad_11 : decode cX6_isLoad 11 = .ok (.goto 4, 3) := by decide +kernel
theorem dX6_isLoad_14 : decode cX6_isLoad 14 = .ok (.iconst 0, 1) := by decide +kernel
theorem dX6_isLoad_15 : decode cX6_isLoad 15 = .ok (.ireturn, 1) := by decide +kernel
theorem dX7_in_0 : decode cX7_in 0 = .ok (.lload_n 0, 1) := by decide +kernel
theorem dX7_in_1 : decode cX7_in 1 = .ok (.lload_n 2, 1) := by decide +kernel
theorem dX7_in_2 : decode cX7_in 2 = .ok (.lcmp, 1) := by decide +kernel
theorem dX7_in_3 : decode cX7_in 3 = .ok (.ifCond .lt 14, 3) := by decide +kernel
theorem dX7_in_6 : decode cX7_in 6 = .ok (.lload_n 0, 1) := by decide +kernel
theorem dX7_in_7 : decode cX7_in 7 = .ok (.lload 4, 2) := by decide +kernel
theorem dX7_in_9 : decode cX7_in 9 = .ok (.lcmp, 1) := by decide +kernel
theorem dX7_in_10 : decode cX7_in 10 = .ok (.ifCond .gt 7, 3) := by decide +kernel
theorem dX7_in_13 : decode cX7_in 13 = .ok (.iconst 1, 1) := by decide +kernel
theorem dX7_in_14 : decode cX7_in 14 = .ok (.goto 4, 3) := by decide +kernel
theorem dX7_in_17 : decode cX7_in 17 = .ok (.iconst 0, 1) := by decide +kernel
theorem dX7_in_18 : decode cX7_in 18 = .ok (.ireturn, 1) := by decide +kernel
theorem dX7_common_0 : decode cX7_common 0 = .ok (.lload_n 0, 1) := by decide +kernel
theorem dX7_common_1 : decode cX7_common 1 = .ok (.lconst 0, 1) := by decide +kernel
theorem dX7_common_2 : decode cX7_common 2 = .ok (.lcmp, 1) := by decide +kernel
theorem dX7_common_3 : decode cX7_common 3 = .ok (.ifCond .ge 8, 3) := by decide +kernel
theorem dX7_common_6 : decode cX7_common 6 = .ok (.lload_n 0, 1) := by decide +kernel
theorem dX7_common_7 : decode cX7_common 7 = .ok (.lneg, 1) := by decide +kernel
theorem dX7_common_8 : decode cX7_common 8 = .ok (.goto 4, 3) := by decide +kernel
theorem dX7_common_11 : decode cX7_common 11 = .ok (.lload_n 0, 1) := by decide +kernel
theorem dX7_common_12 : decode cX7_common 12 = .ok (.lstore 4, 2) := by decide +kernel
theorem dX7_common_14 : decode cX7_common 14 = .ok (.lload_n 2, 1) := by decide +kernel
theorem dX7_common_15 : decode cX7_common 15 = .ok (.lconst 0, 1) := by decide +kernel
theorem dX7_common_16 : decode cX7_common 16 = .ok (.lcmp, 1) := by decide +kernel
theorem dX7_common_17 : decode cX7_common 17 = .ok (.ifCond .ge 8, 3) := by decide +kernel
theorem dX7_common_20 : decode cX7_common 20 = .ok (.lload_n 2, 1) := by decide +kernel
theorem dX7_common_21 : decode cX7_common 21 = .ok (.lneg, 1) := by decide +kernel
theorem dX7_common_22 : decode cX7_common 22 = .ok (.goto 4, 3) := by decide +kernel
theorem dX7_common_25 : decode cX7_common 25 = .ok (.lload_n 2, 1) := by decide +kernel
theorem dX7_common_26 : decode cX7_common 26 = .ok (.lstore 6, 2) := by decide +kernel
theorem dX7_common_28 : decode cX7_common 28 = .ok (.lload 6, 2) := by decide +kernel
theorem dX7_common_30 : decode cX7_common 30 = .ok (.lconst 0, 1) := by decide +kernel
theorem dX7_common_31 : decode cX7_common 31 = .ok (.lcmp, 1) := by decide +kernel
theorem dX7_common_32 : decode cX7_common 32 = .ok (.ifCond .eq 21, 3) := by decide +kernel
theorem dX7_common_35 : decode cX7_common 35 = .ok (.lload 4, 2) := by decide +kernel
theorem dX7_common_37 : decode cX7_common 37 = .ok (.lload 6, 2) := by decide +kernel
theorem dX7_common_39 : decode cX7_common 39 = .ok (.lrem, 1) := by decide +kernel
theorem dX7_common_40 : decode cX7_common 40 = .ok (.lstore 8, 2) := by decide +kernel
theorem dX7_common_42 : decode cX7_common 42 = .ok (.lload 6, 2) := by decide +kernel
theorem dX7_common_44 : decode cX7_common 44 = .ok (.lstore 4, 2) := by decide +kernel
theorem dX7_common_46 : decode cX7_common 46 = .ok (.lload 8, 2) := by decide +kernel
theorem dX7_common_48 : decode cX7_common 48 = .ok (.lstore 6, 2) := by decide +kernel
theorem dX7_common_50 : decode cX7_common 50 = .ok (.goto (-22), 3) := by decide +kernel
theorem dX7_common_53 : decode cX7_common 53 = .ok (.lload 4, 2) := by decide +kernel
theorem dX7_common_55 : decode cX7_common 55 = .ok (.lreturn, 1) := by decide +kernel
theorem dX7_init_0 : decode cX7_init 0 = .ok (.aload_n 0, 1) := by decide +kernel
theorem dX7_init_1 : decode cX7_init 1 = .ok (.invokespecial 1, 3) := by decide +kernel
theorem dX7_init_4 : decode cX7_init 4 = .ok (.aload_n 0, 1) := by decide +kernel
theorem dX7_init_5 : decode cX7_init 5 = .ok (.iconst 2, 1) := by decide +kernel
theorem dX7_init_6 : decode cX7_init 6 = .ok (.putfield 7, 3) := by decide +kernel
theorem dX7_init_9 : decode cX7_init 9 = .ok (.aload_n 0, 1) := by decide +kernel
theorem dX7_init_10 : decode cX7_init 10 = .ok (.bipush 7, 2) := by decide +kernel
theorem dX7_init_12 : decode cX7_init 12 = .ok (.newarray .int, 2) := by decide +kernel
theorem dX7_init_14 : decode cX7_init 14 = .ok (.putfield 13, 3) := by decide +kernel
theorem dX7_init_17 : decode cX7_init 17 = .ok (.aload_n 0, 1) := by decide +kernel
theorem dX7_init_18 : decode cX7_init 18 = .ok (.bipush 7, 2) := by decide +kernel
theorem dX7_init_20 : decode cX7_init 20 = .ok (.newarray .int, 2) := by decide +kernel
theorem dX7_init_22 : decode cX7_init 22 = .ok (.putfield 17, 3) := by decide +kernel
theorem dX7_init_25 : decode cX7_init 25 = .ok (.aload_n 0, 1) := by decide +kernel
theorem dX7_init_26 : decode cX7_init 26 = .ok (.bipush 7, 2) := by decide +kernel
theorem dX7_init_28 : decode cX7_init 28 = .ok (.newarray .int, 2) := by decide +kernel
theorem dX7_init_30 : decode cX7_init 30 = .ok (.putfield 20, 3) := by decide +kernel
theorem dX7_init_33 : decode cX7_init 33 = .ok (.aload_n 0, 1) := by decide +kernel
theorem dX7_init_34 : decode cX7_init 34 = .ok (.bipush 7, 2) := by decide +kernel
theorem dX7_init_36 : decode cX7_init 36 = .ok (.newarray .int, 2) := by decide +kernel
theorem dX7_init_38 : decode cX7_init 38 = .ok (.putfield 23, 3) := by decide +kernel
theorem dX7_init_41 : decode cX7_init 41 = .ok (.aload_n 0, 1) := by decide +kernel
theorem dX7_init_42 : decode cX7_init 42 = .ok (.iconst 4, 1) := by decide +kernel
theorem dX7_init_43 : decode cX7_init 43 = .ok (.newarray .int, 2) := by decide +kernel
theorem dX7_init_45 : decode cX7_init 45 = .ok (.putfield 26, 3) := by decide +kernel
theorem dX7_init_48 : decode cX7_init 48 = .ok (.aload_n 0, 1) := by decide +kernel
theorem dX7_init_49 : decode cX7_init 49 = .ok (.iconst 4, 1) := by decide +kernel
theorem dX7_init_50 : decode cX7_init 50 = .ok (.newarray .int, 2) := by decide +kernel
theorem dX7_init_52 : decode cX7_init 52 = .ok (.putfield 29, 3) := by decide +kernel
theorem dX7_init_55 : decode cX7_init 55 = .ok (.aload_n 0, 1) := by decide +kernel
theorem dX7_init_56 : decode cX7_init 56 = .ok (.bipush 112, 2) := by decide +kernel
theorem dX7_init_58 : decode cX7_init 58 = .ok (.newarray .int, 2) := by decide +kernel
theorem dX7_init_60 : decode cX7_init 60 = .ok (.putfield 32, 3) := by decide +kernel
theorem dX7_init_63 : decode cX7_init 63 = .ok (.aload_n 0, 1) := by decide +kernel
theorem dX7_init_64 : decode cX7_init 64 = .ok (.bipush 80, 2) := by decide +kernel
theorem dX7_init_66 : decode cX7_init 66 = .ok (.newarray .long, 2) := by decide +kernel
theorem dX7_init_68 : decode cX7_init 68 = .ok (.putfield 35, 3) := by decide +kernel
theorem dX7_init_71 : decode cX7_init 71 = .ok (.aload_n 0, 1) := by decide +kernel
theorem dX7_init_72 : decode cX7_init 72 = .ok (.iconst 4, 1) := by decide +kernel
theorem dX7_init_73 : decode cX7_init 73 = .ok (.newarray .long, 2) := by decide +kernel
theorem dX7_init_75 : decode cX7_init 75 = .ok (.putfield 39, 3) := by decide +kernel
theorem dX7_init_78 : decode cX7_init 78 = .ok (.aload_n 0, 1) := by decide +kernel
theorem dX7_init_79 : decode cX7_init 79 = .ok (.iconst 3, 1) := by decide +kernel
theorem dX7_init_80 : decode cX7_init 80 = .ok (.newarray .long, 2) := by decide +kernel
theorem dX7_init_82 : decode cX7_init 82 = .ok (.putfield 42, 3) := by decide +kernel
theorem dX7_init_85 : decode cX7_init 85 = .ok (.aload_n 0, 1) := by decide +kernel
theorem dX7_init_86 : decode cX7_init 86 = .ok (.iconst 4, 1) := by decide +kernel
theorem dX7_init_87 : decode cX7_init 87 = .ok (.newarray .int, 2) := by decide +kernel
theorem dX7_init_89 : decode cX7_init 89 = .ok (.putfield 45, 3) := by decide +kernel
theorem dX7_init_92 : decode cX7_init 92 = .ok (.aload_n 0, 1) := by decide +kernel
theorem dX7_init_93 : decode cX7_init 93 = .ok (.bipush 7, 2) := by decide +kernel
theorem dX7_init_95 : decode cX7_init 95 = .ok (.newarray .int, 2) := by decide +kernel
theorem dX7_init_97 : decode cX7_init 97 = .ok (.putfield 48, 3) := by decide +kernel
theorem dX7_init_100 : decode cX7_init 100 = .ok (.iconst 0, 1) := by decide +kernel
theorem dX7_init_101 : decode cX7_init 101 = .ok (.istore_n 1, 1) := by decide +kernel
theorem dX7_init_102 : decode cX7_init 102 = .ok (.iload_n 1, 1) := by decide +kernel
theorem dX7_init_103 : decode cX7_init 103 = .ok (.iconst 4, 1) := by decide +kernel
theorem dX7_init_104 : decode cX7_init 104 = .ok (.if_icmp .ge 16, 3) := by decide +kernel
theorem dX7_init_107 : decode cX7_init 107 = .ok (.aload_n 0, 1) := by decide +kernel
theorem dX7_init_108 : decode cX7_init 108 = .ok (.getfield 26, 3) := by decide +kernel
theorem dX7_init_111 : decode cX7_init 111 = .ok (.iload_n 1, 1) := by decide +kernel
theorem dX7_init_112 : decode cX7_init 112 = .ok (.iconst (-1), 1) := by decide +kernel
theorem dX7_init_113 : decode cX7_init 113 = .ok (.iastore, 1) := by decide +kernel
theorem dX7_init_114 : decode cX7_init 114 = .ok (.iinc 1 1, 3) := by decide +kernel
theorem dX7_init_117 : decode cX7_init 117 = .ok (.goto (-15), 3) := by decide +kernel
theorem dX7_init_120 : decode cX7_init 120 = .ok (.aload_n 0, 1) := by decide +kernel
theorem dX7_init_121 : decode cX7_init 121 = .ok (.iconst 2, 1) := by decide +kernel
theorem dX7_init_122 : decode cX7_init 122 = .ok (.invokevirtual 51, 3) := by decide +kernel
theorem dX7_init_125 : decode cX7_init 125 = .ok (.return_, 1) := by decide +kernel
theorem dX7_begin_0 : decode cX7_begin 0 = .ok (.aload_n 0, 1) := by decide +kernel
theorem dX7_begin_1 : decode cX7_begin 1 = .ok (.iload_n 1, 1) := by decide +kernel
theorem dX7_begin_2 : decode cX7_begin 2 = .ok (.putfield 7, 3) := by decide +kernel
theorem dX7_begin_5 : decode cX7_begin 5 = .ok (.iconst 0, 1) := by decide +kernel
theorem dX7_begin_6 : decode cX7_begin 6 = .ok (.istore_n 2, 1) := by decide +kernel
theorem dX7_begin_7 : decode cX7_begin 7 = .ok (.iload_n 2, 1) := by decide +kernel
theorem dX7_begin_8 : decode cX7_begin 8 = .ok (.aload_n 0, 1) := by decide +kernel
theorem dX7_begin_9 : decode cX7_begin 9 = .ok (.getfield 7, 3) := by decide +kernel
theorem dX7_begin_12 : decode cX7_begin 12 = .ok (.if_icmp .gt 45, 3) := by decide +kernel
theorem dX7_begin_15 : decode cX7_begin 15 = .ok (.aload_n 0, 1) := by decide +kernel
theorem dX7_begin_16 : decode cX7_begin 16 = .ok (.getfield 13, 3) := by decide +kernel
theorem dX7_begin_19 : decode cX7_begin 19 = .ok (.iload_n 2, 1) := by decide +kernel
theorem dX7_begin_20 : decode cX7_begin 20 = .ok (.bipush 20, 2) := by decide +kernel
theorem dX7_begin_22 : decode cX7_begin 22 = .ok (.iload_n 2, 1) := by decide +kernel
theorem dX7_begin_23 : decode cX7_begin 23 = .ok (.imul, 1) := by decide +kernel
theorem dX7_begin_24 : decode cX7_begin 24 = .ok (.aload_n 0, 1) := by decide +kernel
theorem dX7_begin_25 : decode cX7_begin 25 = .ok (.getfield 7, 3) := by decide +kernel
theorem dX7_begin_28 : decode cX7_begin 28 = .ok (.idiv, 1) := by decide +kernel
theorem dX7_begin_29 : decode cX7_begin 29 = .ok (.iastore, 1) := by decide +kernel
theorem dX7_begin_30 : decode cX7_begin 30 = .ok (.aload_n 0, 1) := by decide +kernel
theorem dX7_begin_31 : decode cX7_begin 31 = .ok (.getfield 17, 3) := by decide +kernel
theorem dX7_begin_34 : decode cX7_begin 34 = .ok (.iload_n 2, 1) := by decide +kernel
theorem dX7_begin_35 : decode cX7_begin 35 = .ok (.iconst 0, 1) := by decide +kernel
theorem dX7_begin_36 : decode cX7_begin 36 = .ok (.iastore, 1) := by decide +kernel
theorem dX7_begin_37 : decode cX7_begin 37 = .ok (.aload_n 0, 1) := by decide +kernel
theorem dX7_begin_38 : decode cX7_begin 38 = .ok (.getfield 20, 3) := by decide +kernel
theorem dX7_begin_41 : decode cX7_begin 41 = .ok (.iload_n 2, 1) := by decide +kernel
theorem dX7_begin_42 : decode cX7_begin 42 = .ok (.iconst 1, 1) := by decide +kernel
theorem dX7_begin_43 : decode cX7_begin 43 = .ok (.iastore, 1) := by decide +kernel
theorem dX7_begin_44 : decode cX7_begin 44 = .ok (.aload_n 0, 1) := by decide +kernel
theorem dX7_begin_45 : decode cX7_begin 45 = .ok (.getfield 23, 3) := by decide +kernel
theorem dX7_begin_48 : decode cX7_begin 48 = .ok (.iload_n 2, 1) := by decide +kernel
theorem dX7_begin_49 : decode cX7_begin 49 = .ok (.iconst 0, 1) := by decide +kernel
theorem dX7_begin_50 : decode cX7_begin 50 = .ok (.iastore, 1) := by decide +kernel
theorem dX7_begin_51 : decode cX7_begin 51 = .ok (.iinc 2 1, 3) := by decide +kernel
theorem dX7_begin_54 : decode cX7_begin 54 = .ok (.goto (-47), 3) := by decide +kernel
theorem dX7_begin_57 : decode cX7_begin 57 = .ok (.return_, 1) := by decide +kernel
theorem dX7_joints_0 : decode cX7_joints 0 = .ok (.iload_n 1, 1) := by decide +kernel
theorem dX7_joints_1 : decode cX7_joints 1 = .ok (.i2l, 1) := by decide +kernel
theorem dX7_joints_2 : decode cX7_joints 2 = .ok (.ldc2_w 55, 3) := by decide +kernel
theorem dX7_joints_5 : decode cX7_joints 5 = .ok (.ldc2_w 57, 3) := by decide +kernel
theorem dX7_joints_8 : decode cX7_joints 8 = .ok (.invokestatic 59, 3) := by decide +kernel
theorem dX7_joints_11 : decode cX7_joints 11 = .ok (.ifCond .ne 5, 3) := by decide +kernel
theorem dX7_joints_14 : decode cX7_joints 14 = .ok (.iconst (-1), 1) := by decide +kernel
theorem dX7_joints_15 : decode cX7_joints 15 = .ok (.ireturn, 1) := by decide +kernel
theorem dX7_joints_16 : decode cX7_joints 16 = .ok (.aload_n 0, 1) := by decide +kernel
theorem dX7_joints_17 : decode cX7_joints 17 = .ok (.iload_n 1, 1) := by decide +kernel
theorem dX7_joints_18 : decode cX7_joints 18 = .ok (.invokevirtual 51, 3) := by decide +kernel
theorem dX7_joints_21 : decode cX7_joints 21 = .ok (.iconst 1, 1) := by decide +kernel
theorem dX7_joints_22 : decode cX7_joints 22 = .ok (.ireturn, 1) := by decide +kernel
theorem dX7_at_0 : decode cX7_at 0 = .ok (.iload_n 1, 1) := by decide +kernel
theorem dX7_at_1 : decode cX7_at 1 = .ok (.i2l, 1) := by decide +kernel
theorem dX7_at_2 : decode cX7_at 2 = .ok (.lconst 1, 1) := by decide +kernel
theorem dX7_at_3 : decode cX7_at 3 = .ok (.aload_n 0, 1) := by decide +kernel
theorem dX7_at_4 : decode cX7_at 4 = .ok (.getfield 7, 3) := by decide +kernel
theorem dX7_at_7 : decode cX7_at 7 = .ok (.i2l, 1) := by decide +kernel
theorem dX7_at_8 : decode cX7_at 8 = .ok (.invokestatic 59, 3) := by decide +kernel
theorem dX7_at_11 : decode cX7_at 11 = .ok (.ifCond .eq 15, 3) := by decide +kernel
theorem dX7_at_14 : decode cX7_at 14 = .ok (.iload_n 2, 1) := by decide +kernel
theorem dX7_at_15 : decode cX7_at 15 = .ok (.i2l, 1) := by decide +kernel
theorem dX7_at_16 : decode cX7_at 16 = .ok (.lconst 0, 1) := by decide +kernel
theorem dX7_at_17 : decode cX7_at 17 = .ok (.ldc2_w 63, 3) := by decide +kernel
theorem dX7_at_20 : decode cX7_at 20 = .ok (.invokestatic 59, 3) := by decide +kernel
theorem dX7_at_23 : decode cX7_at 23 = .ok (.ifCond .ne 5, 3) := by decide +kernel
theorem dX7_at_26 : decode cX7_at 26 = .ok (.iconst (-1), 1) := by decide +kernel
theorem dX7_at_27 : decode cX7_at 27 = .ok (.ireturn, 1) := by decide +kernel
theorem dX7_at_28 : decode cX7_at 28 = .ok (.iload_n 2, 1) := by decide +kernel
theorem dX7_at_29 : decode cX7_at 29 = .ok (.aload_n 0, 1) := by decide +kernel
theorem dX7_at_30 : decode cX7_at 30 = .ok (.getfield 13, 3) := by decide +kernel
theorem dX7_at_33 : decode cX7_at 33 = .ok (.iload_n 1, 1) := by decide +kernel
theorem dX7_at_34 : decode cX7_at 34 = .ok (.iconst 1, 1) := by decide +kernel
theorem dX7_at_35 : decode cX7_at 35 = .ok (.isub, 1) := by decide +kernel
theorem dX7_at_36 : decode cX7_at 36 = .ok (.iaload, 1) := by decide +kernel
theorem dX7_at_37 : decode cX7_at 37 = .ok (.if_icmp .le 23, 3) := by decide +kernel
theorem dX7_at_40 : decode cX7_at 40 = .ok (.iload_n 1, 1) := by decide +kernel
theorem dX7_at_41 : decode cX7_at 41 = .ok (.aload_n 0, 1) := by decide +kernel
theorem dX7_at_42 : decode cX7_at 42 = .ok (.getfield 7, 3) := by decide +kernel
theorem dX7_at_45 : decode cX7_at 45 = .ok (.if_icmp .ge 18, 3) := by decide +kernel
theorem dX7_at_48 : decode cX7_at 48 = .ok (.iload_n 2, 1) := by decide +kernel
theorem dX7_at_49 : decode cX7_at 49 = .ok (.aload_n 0, 1) := by decide +kernel
theorem dX7_at_50 : decode cX7_at 50 = .ok (.getfield 13, 3) := by decide +kernel
theorem dX7_at_53 : decode cX7_at 53 = .ok (.iload_n 1, 1) := by decide +kernel
theorem dX7_at_54 : decode cX7_at 54 = .ok (.iconst 1, 1) := by decide +kernel
theorem dX7_at_55 : decode cX7_at 55 = .ok (.iadd, 1) := by decide +kernel
theorem dX7_at_56 : decode cX7_at 56 = .ok (.iaload, 1) := by decide +kernel
theorem dX7_at_57 : decode cX7_at 57 = .ok (.if_icmp .lt 6, 3) := by decide +kernel
theorem dX7_at_60 : decode cX7_at 60 = .ok (.bipush (-2), 2) := by decide +kernel
theorem dX7_at_62 : decode cX7_at 62 = .ok (.ireturn, 1) := by decide +kernel
theorem dX7_at_63 : decode cX7_at 63 = .ok (.aload_n 0, 1) := by decide +kernel
theorem dX7_at_64 : decode cX7_at 64 = .ok (.getfield 13, 3) := by decide +kernel
theorem dX7_at_67 : decode cX7_at 67 = .ok (.iload_n 1, 1) := by decide +kernel
theorem dX7_at_68 : decode cX7_at 68 = .ok (.iaload, 1) := by decide +kernel
theorem dX7_at_69 : decode cX7_at 69 = .ok (.istore_n 3, 1) := by decide +kernel
theorem dX7_at_70 : decode cX7_at 70 = .ok (.aload_n 0, 1) := by decide +kernel
theorem dX7_at_71 : decode cX7_at 71 = .ok (.getfield 13, 3) := by decide +kernel
theorem dX7_at_74 : decode cX7_at 74 = .ok (.iload_n 1, 1) := by decide +kernel
theorem dX7_at_75 : decode cX7_at 75 = .ok (.iload_n 2, 1) := by decide +kernel
theorem dX7_at_76 : decode cX7_at 76 = .ok (.iastore, 1) := by decide +kernel
theorem dX7_at_77 : decode cX7_at 77 = .ok (.iload_n 3, 1) := by decide +kernel
theorem dX7_at_78 : decode cX7_at 78 = .ok (.ireturn, 1) := by decide +kernel
theorem dX7_edges_0 : decode cX7_edges 0 = .ok (.iload_n 1, 1) := by decide +kernel
theorem dX7_edges_1 : decode cX7_edges 1 = .ok (.i2l, 1) := by decide +kernel
theorem dX7_edges_2 : decode cX7_edges 2 = .ok (.lconst 0, 1) := by decide +kernel
theorem dX7_edges_3 : decode cX7_edges 3 = .ok (.aload_n 0, 1) := by decide +kernel
theorem dX7_edges_4 : decode cX7_edges 4 = .ok (.getfield 7, 3) := by decide +kernel
theorem dX7_edges_7 : decode cX7_edges 7 = .ok (.i2l, 1) := by decide +kernel
theorem dX7_edges_8 : decode cX7_edges 8 = .ok (.invokestatic 59, 3) := by decide +kernel
theorem dX7_edges_11 : decode cX7_edges 11 = .ok (.ifCond .eq 30, 3) := by decide +kernel
theorem dX7_edges_14 : decode cX7_edges 14 = .ok (.iload_n 2, 1) := by decide +kernel
theorem dX7_edges_15 : decode cX7_edges 15 = .ok (.i2l, 1) := by decide +kernel
theorem dX7_edges_16 : decode cX7_edges 16 = .ok (.ldc2_w 65, 3) := by decide +kernel
theorem dX7_edges_19 : decode cX7_edges 19 = .ok (.iload_n 3, 1) := by decide +kernel
theorem dX7_edges_20 : decode cX7_edges 20 = .ok (.i2l, 1) := by decide +kernel
theorem dX7_edges_21 : decode cX7_edges 21 = .ok (.invokestatic 59, 3) := by decide +kernel
theorem dX7_edges_24 : decode cX7_edges 24 = .ok (.ifCond .eq 17, 3) := by decide +kernel
theorem dX7_edges_27 : decode cX7_edges 27 = .ok (.iload_n 3, 1) := by decide +kernel
theorem dX7_edges_28 : decode cX7_edges 28 = .ok (.i2l, 1) := by decide +kernel
theorem dX7_edges_29 : decode cX7_edges 29 = .ok (.ldc2_w 65, 3) := by decide +kernel
theorem dX7_edges_32 : decode cX7_edges 32 = .ok (.ldc2_w 63, 3) := by decide +kernel
theorem dX7_edges_35 : decode cX7_edges 35 = .ok (.invokestatic 59, 3) := by decide +kernel
theorem dX7_edges_38 : decode cX7_edges 38 = .ok (.ifCond .ne 5, 3) := by decide +kernel
theorem dX7_edges_41 : decode cX7_edges 41 = .ok (.iconst (-1), 1) := by decide +kernel
theorem dX7_edges_42 : decode cX7_edges 42 = .ok (.ireturn, 1) := by decide +kernel
theorem dX7_edges_43 : decode cX7_edges 43 = .ok (.aload_n 0, 1) := by decide +kernel
theorem dX7_edges_44 : decode cX7_edges 44 = .ok (.getfield 17, 3) := by decide +kernel
theorem dX7_edges_47 : decode cX7_edges 47 = .ok (.iload_n 1, 1) := by decide +kernel
theorem dX7_edges_48 : decode cX7_edges 48 = .ok (.iload_n 2, 1) := by decide +kernel
theorem dX7_edges_49 : decode cX7_edges 49 = .ok (.iastore, 1) := by decide +kernel
theorem dX7_edges_50 : decode cX7_edges 50 = .ok (.aload_n 0, 1) := by decide +kernel
theorem dX7_edges_51 : decode cX7_edges 51 = .ok (.getfield 20, 3) := by decide +kernel
theorem dX7_edges_54 : decode cX7_edges 54 = .ok (.iload_n 1, 1) := by decide +kernel
theorem dX7_edges_55 : decode cX7_edges 55 = .ok (.iload_n 3, 1) := by decide +kernel
theorem dX7_edges_56 : decode cX7_edges 56 = .ok (.iastore, 1) := by decide +kernel
theorem dX7_edges_57 : decode cX7_edges 57 = .ok (.iconst 1, 1) := by decide +kernel
theorem dX7_edges_58 : decode cX7_edges 58 = .ok (.ireturn, 1) := by decide +kernel
theorem dX7_load_0 : decode cX7_load 0 = .ok (.iload_n 1, 1) := by decide +kernel
theorem dX7_load_1 : decode cX7_load 1 = .ok (.i2l, 1) := by decide +kernel
theorem dX7_load_2 : decode cX7_load 2 = .ok (.lconst 1, 1) := by decide +kernel
theorem dX7_load_3 : decode cX7_load 3 = .ok (.aload_n 0, 1) := by decide +kernel
theorem dX7_load_4 : decode cX7_load 4 = .ok (.getfield 7, 3) := by decide +kernel
theorem dX7_load_7 : decode cX7_load 7 = .ok (.iconst 1, 1) := by decide +kernel
theorem dX7_load_8 : decode cX7_load 8 = .ok (.isub, 1) := by decide +kernel
theorem dX7_load_9 : decode cX7_load 9 = .ok (.i2l, 1) := by decide +kernel
theorem dX7_load_10 : decode cX7_load 10 = .ok (.invokestatic 59, 3) := by decide +kernel
theorem dX7_load_13 : decode cX7_load 13 = .ok (.ifCond .eq 15, 3) := by decide +kernel
theorem dX7_load_16 : decode cX7_load 16 = .ok (.iload_n 2, 1) := by decide +kernel
theorem dX7_load_17 : decode cX7_load 17 = .ok (.i2l, 1) := by decide +kernel
theorem dX7_load_18 : decode cX7_load 18 = .ok (.lconst 0, 1) := by decide +kernel
theorem dX7_load_19 : decode cX7_load 19 = .ok (.ldc2_w 67, 3) := by decide +kernel
theorem dX7_load_22 : decode cX7_load 22 = .ok (.invokestatic 59, 3) := by decide +kernel
theorem dX7_load_25 : decode cX7_load 25 = .ok (.ifCond .ne 5, 3) := by decide +kernel
theorem dX7_load_28 : decode cX7_load 28 = .ok (.iconst (-1), 1) := by decide +kernel
theorem dX7_load_29 : decode cX7_load 29 = .ok (.ireturn, 1) := by decide +kernel
theorem dX7_load_30 : decode cX7_load 30 = .ok (.aload_n 0, 1) := by decide +kernel
theorem dX7_load_31 : decode cX7_load 31 = .ok (.getfield 23, 3) := by decide +kernel
theorem dX7_load_34 : decode cX7_load 34 = .ok (.iload_n 1, 1) := by decide +kernel
theorem dX7_load_35 : decode cX7_load 35 = .ok (.iaload, 1) := by decide +kernel
theorem dX7_load_36 : decode cX7_load 36 = .ok (.istore_n 3, 1) := by decide +kernel
theorem dX7_load_37 : decode cX7_load 37 = .ok (.aload_n 0, 1) := by decide +kernel
theorem dX7_load_38 : decode cX7_load 38 = .ok (.getfield 23, 3) := by decide +kernel
theorem dX7_load_41 : decode cX7_load 41 = .ok (.iload_n 1, 1) := by decide +kernel
theorem dX7_load_42 : decode cX7_load 42 = .ok (.iload_n 2, 1) := by decide +kernel
theorem dX7_load_43 : decode cX7_load 43 = .ok (.iastore, 1) := by decide +kernel
theorem dX7_load_44 : decode cX7_load 44 = .ok (.iload_n 3, 1) := by decide +kernel
theorem dX7_load_45 : decode cX7_load 45 = .ok (.ireturn, 1) := by decide +kernel
theorem dX7_isSheet_0 : decode cX7_isSheet 0 = .ok (.iload_n 0, 1) := by decide +kernel
theorem dX7_isSheet_1 : decode cX7_isSheet 1 = .ok (.i2l, 1) := by decide +kernel
theorem dX7_isSheet_2 : decode cX7_isSheet 2 = .ok (.lconst 0, 1) := by decide +kernel
theorem dX7_isSheet_3 : decode cX7_isSheet 3 = .ok (.ldc2_w 69, 3) := by decide +kernel
theorem dX7_isSheet_6 : decode cX7_isSheet 6 = .ok (.invokestatic 59, 3) := by decide +kernel
theorem dX7_isSheet_9 : decode cX7_isSheet 9 = .ok (.ifCond .eq 19, 3) := by decide +kernel
theorem dX7_isSheet_12 : decode cX7_isSheet 12 = .ok (.iload_n 1, 1) := by decide +kernel
theorem dX7_isSheet_13 : decode cX7_isSheet 13 = .ok (.i2l, 1) := by decide +kernel
theorem dX7_isSheet_14 : decode cX7_isSheet 14 = .ok (.lconst 0, 1) := by decide +kernel
theorem dX7_isSheet_15 : decode cX7_isSheet 15 = .ok (.ldc2_w 55, 3) := by decide +kernel
theorem dX7_isSheet_18 : decode cX7_isSheet 18 = .ok (.invokestatic 59, 3) := by decide +kernel
theorem dX7_isSheet_21 : decode cX7_isSheet 21 = .ok (.ifCond .eq 7, 3) := by decide +kernel
theorem dX7_isSheet_24 : decode cX7_isSheet 24 = .ok (.iconst 1, 1) := by decide +kernel
theorem dX7_isSheet_25 : decode cX7_isSheet 25 = .ok (.goto 4, 3) := by decide +kernel
theorem dX7_isSheet_28 : decode cX7_isSheet 28 = .ok (.iconst 0, 1) := by decide +kernel
theorem dX7_isSheet_29 : decode cX7_isSheet 29 = .ok (.ireturn, 1) := by decide +kernel
theorem dX7_sheet_0 : decode cX7_sheet 0 = .ok (.iload_n 1, 1) := by decide +kernel
theorem dX7_sheet_1 : decode cX7_sheet 1 = .ok (.iload_n 2, 1) := by decide +kernel
theorem dX7_sheet_2 : decode cX7_sheet 2 = .ok (.invokestatic 71, 3) := by decide +kernel
theorem dX7_sheet_5 : decode cX7_sheet 5 = .ok (.ifCond .eq 9, 3) := by decide +kernel
theorem dX7_sheet_8 : decode cX7_sheet 8 = .ok (.iload_n 3, 1) := by decide +kernel
theorem dX7_sheet_9 : decode cX7_sheet 9 = .ok (.bipush 28, 2) := by decide +kernel
theorem dX7_sheet_11 : decode cX7_sheet 11 = .ok (.if_icmp .le 5, 3) := by decide +kernel
theorem dX7_sheet_14 : decode cX7_sheet 14 = .ok (.iconst (-1), 1) := by decide +kernel
theorem dX7_sheet_15 : decode cX7_sheet 15 = .ok (.ireturn, 1) := by decide +kernel
theorem dX7_sheet_16 : decode cX7_sheet 16 = .ok (.iload_n 3, 1) := by decide +kernel
theorem dX7_sheet_17 : decode cX7_sheet 17 = .ok (.ifCond .ge 6, 3) := by decide +kernel
theorem dX7_sheet_20 : decode cX7_sheet 20 = .ok (.bipush (-14), 2) := by decide +kernel
theorem dX7_sheet_22 : decode cX7_sheet 22 = .ok (.ireturn, 1) := by decide +kernel
theorem dX7_sheet_23 : decode cX7_sheet 23 = .ok (.aload_n 0, 1) := by decide +kernel
theorem dX7_sheet_24 : decode cX7_sheet 24 = .ok (.getfield 26, 3) := by decide +kernel
theorem dX7_sheet_27 : decode cX7_sheet 27 = .ok (.iload_n 1, 1) := by decide +kernel
theorem dX7_sheet_28 : decode cX7_sheet 28 = .ok (.iload_n 2, 1) := by decide +kernel
theorem dX7_sheet_29 : decode cX7_sheet 29 = .ok (.iastore, 1) := by decide +kernel
theorem dX7_sheet_30 : decode cX7_sheet 30 = .ok (.aload_n 0, 1) := by decide +kernel
theorem dX7_sheet_31 : decode cX7_sheet 31 = .ok (.getfield 29, 3) := by decide +kernel
theorem dX7_sheet_34 : decode cX7_sheet 34 = .ok (.iload_n 1, 1) := by decide +kernel
theorem dX7_sheet_35 : decode cX7_sheet 35 = .ok (.iload_n 3, 1) := by decide +kernel
theorem dX7_sheet_36 : decode cX7_sheet 36 = .ok (.iastore, 1) := by decide +kernel
theorem dX7_sheet_37 : decode cX7_sheet 37 = .ok (.iconst 0, 1) := by decide +kernel
theorem dX7_sheet_38 : decode cX7_sheet 38 = .ok (.istore 4, 2) := by decide +kernel
theorem dX7_sheet_40 : decode cX7_sheet 40 = .ok (.iload 4, 2) := by decide +kernel
theorem dX7_sheet_42 : decode cX7_sheet 42 = .ok (.bipush 28, 2) := by decide +kernel
theorem dX7_sheet_44 : decode cX7_sheet 44 = .ok (.if_icmp .ge 22, 3) := by decide +kernel
theorem dX7_sheet_47 : decode cX7_sheet 47 = .ok (.aload_n 0, 1) := by decide +kernel
theorem dX7_sheet_48 : decode cX7_sheet 48 = .ok (.getfield 32, 3) := by decide +kernel
theorem dX7_sheet_51 : decode cX7_sheet 51 = .ok (.bipush 28, 2) := by decide +kernel
theorem dX7_sheet_53 : decode cX7_sheet 53 = .ok (.iload_n 1, 1) := by decide +kernel
theorem dX7_sheet_54 : decode cX7_sheet 54 = .ok (.imul, 1) := by decide +kernel
theorem dX7_sheet_55 : decode cX7_sheet 55 = .ok (.iload 4, 2) := by decide +kernel
theorem dX7_sheet_57 : decode cX7_sheet 57 = .ok (.iadd, 1) := by decide +kernel
theorem dX7_sheet_58 : decode cX7_sheet 58 = .ok (.iconst 0, 1) := by decide +kernel
theorem dX7_sheet_59 : decode cX7_sheet 59 = .ok (.iastore, 1) := by decide +kernel
theorem dX7_sheet_60 : decode cX7_sheet 60 = .ok (.iinc 4 1, 3) := by decide +kernel
theorem dX7_sheet_63 : decode cX7_sheet 63 = .ok (.goto (-23), 3) := by decide +kernel
theorem dX7_sheet_66 : decode cX7_sheet 66 = .ok (.iload_n 3, 1) := by decide +kernel
theorem dX7_sheet_67 : decode cX7_sheet 67 = .ok (.ireturn, 1) := by decide +kernel
theorem dX7_drop_0 : decode cX7_drop 0 = .ok (.iload_n 1, 1) := by decide +kernel
theorem dX7_drop_1 : decode cX7_drop 1 = .ok (.i2l, 1) := by decide +kernel
theorem dX7_drop_2 : decode cX7_drop 2 = .ok (.lconst 0, 1) := by decide +kernel
theorem dX7_drop_3 : decode cX7_drop 3 = .ok (.ldc2_w 69, 3) := by decide +kernel
theorem dX7_drop_6 : decode cX7_drop 6 = .ok (.invokestatic 59, 3) := by decide +kernel
theorem dX7_drop_9 : decode cX7_drop 9 = .ok (.ifCond .ne 5, 3) := by decide +kernel
theorem dX7_drop_12 : decode cX7_drop 12 = .ok (.iconst (-1), 1) := by decide +kernel
theorem dX7_drop_13 : decode cX7_drop 13 = .ok (.ireturn, 1) := by decide +kernel
theorem dX7_drop_14 : decode cX7_drop 14 = .ok (.aload_n 0, 1) := by decide +kernel
theorem dX7_drop_15 : decode cX7_drop 15 = .ok (.getfield 26, 3) := by decide +kernel
theorem dX7_drop_18 : decode cX7_drop 18 = .ok (.iload_n 1, 1) := by decide +kernel
theorem dX7_drop_19 : decode cX7_drop 19 = .ok (.iaload, 1) := by decide +kernel
theorem dX7_drop_20 : decode cX7_drop 20 = .ok (.ifCond .ge 6, 3) := by decide +kernel
theorem dX7_drop_23 : decode cX7_drop 23 = .ok (.bipush (-11), 2) := by decide +kernel
theorem dX7_drop_25 : decode cX7_drop 25 = .ok (.ireturn, 1) := by decide +kernel
theorem dX7_drop_26 : decode cX7_drop 26 = .ok (.aload_n 0, 1) := by decide +kernel
theorem dX7_drop_27 : decode cX7_drop 27 = .ok (.getfield 26, 3) := by decide +kernel
theorem dX7_drop_30 : decode cX7_drop 30 = .ok (.iload_n 1, 1) := by decide +kernel
theorem dX7_drop_31 : decode cX7_drop 31 = .ok (.iconst (-1), 1) := by decide +kernel
theorem dX7_drop_32 : decode cX7_drop 32 = .ok (.iastore, 1) := by decide +kernel
theorem dX7_drop_33 : decode cX7_drop 33 = .ok (.aload_n 0, 1) := by decide +kernel
theorem dX7_drop_34 : decode cX7_drop 34 = .ok (.getfield 29, 3) := by decide +kernel
theorem dX7_drop_37 : decode cX7_drop 37 = .ok (.iload_n 1, 1) := by decide +kernel
theorem dX7_drop_38 : decode cX7_drop 38 = .ok (.iaload, 1) := by decide +kernel
theorem dX7_drop_39 : decode cX7_drop 39 = .ok (.ireturn, 1) := by decide +kernel
theorem dX7_item_0 : decode cX7_item 0 = .ok (.iload_n 1, 1) := by decide +kernel
theorem dX7_item_1 : decode cX7_item 1 = .ok (.iload_n 2, 1) := by decide +kernel
theorem dX7_item_2 : decode cX7_item 2 = .ok (.invokestatic 71, 3) := by decide +kernel
theorem dX7_item_5 : decode cX7_item 5 = .ok (.ifCond .ne 5, 3) := by decide +kernel
theorem dX7_item_8 : decode cX7_item 8 = .ok (.iconst (-1), 1) := by decide +kernel
theorem dX7_item_9 : decode cX7_item 9 = .ok (.ireturn, 1) := by decide +kernel
theorem dX7_item_10 : decode cX7_item 10 = .ok (.aload_n 0, 1) := by decide +kernel
theorem dX7_item_11 : decode cX7_item 11 = .ok (.getfield 26, 3) := by decide +kernel
theorem dX7_item_14 : decode cX7_item 14 = .ok (.iload_n 1, 1) := by decide +kernel
theorem dX7_item_15 : decode cX7_item 15 = .ok (.iaload, 1) := by decide +kernel
theorem dX7_item_16 : decode cX7_item 16 = .ok (.iload_n 2, 1) := by decide +kernel
theorem dX7_item_17 : decode cX7_item 17 = .ok (.if_icmp .eq 20, 3) := by decide +kernel
theorem dX7_item_20 : decode cX7_item 20 = .ok (.aload_n 0, 1) := by decide +kernel
theorem dX7_item_21 : decode cX7_item 21 = .ok (.getfield 26, 3) := by decide +kernel
theorem dX7_item_24 : decode cX7_item 24 = .ok (.iload_n 1, 1) := by decide +kernel
theorem dX7_item_25 : decode cX7_item 25 = .ok (.iaload, 1) := by decide +kernel
theorem dX7_item_26 : decode cX7_item 26 = .ok (.ifCond .ge 8, 3) := by decide +kernel
theorem dX7_item_29 : decode cX7_item 29 = .ok (.bipush (-11), 2) := by decide +kernel
theorem dX7_item_31 : decode cX7_item 31 = .ok (.goto 5, 3) := by decide +kernel
theorem dX7_item_34 : decode cX7_item 34 = .ok (.bipush (-12), 2) := by decide +kernel
theorem dX7_item_36 : decode cX7_item 36 = .ok (.ireturn, 1) := by decide +kernel
theorem dX7_item_37 : decode cX7_item 37 = .ok (.iload_n 3, 1) := by decide +kernel
theorem dX7_item_38 : decode cX7_item 38 = .ok (.i2l, 1) := by decide +kernel
theorem dX7_item_39 : decode cX7_item 39 = .ok (.lconst 0, 1) := by decide +kernel
theorem dX7_item_40 : decode cX7_item 40 = .ok (.aload_n 0, 1) := by decide +kernel
theorem dX7_item_41 : decode cX7_item 41 = .ok (.getfield 29, 3) := by decide +kernel
theorem dX7_item_44 : decode cX7_item 44 = .ok (.iload_n 1, 1) := by decide +kernel
theorem dX7_item_45 : decode cX7_item 45 = .ok (.iaload, 1) := by decide +kernel
theorem dX7_item_46 : decode cX7_item 46 = .ok (.iconst 1, 1) := by decide +kernel
theorem dX7_item_47 : decode cX7_item 47 = .ok (.isub, 1) := by decide +kernel
theorem dX7_item_48 : decode cX7_item 48 = .ok (.i2l, 1) := by decide +kernel
theorem dX7_item_49 : decode cX7_item 49 = .ok (.invokestatic 59, 3) := by decide +kernel
theorem dX7_item_52 : decode cX7_item 52 = .ok (.ifCond .ne 6, 3) := by decide +kernel
theorem dX7_item_55 : decode cX7_item 55 = .ok (.bipush (-13), 2) := by decide +kernel
theorem dX7_item_57 : decode cX7_item 57 = .ok (.ireturn, 1) := by decide +kernel
theorem dX7_item_58 : decode cX7_item 58 = .ok (.aload_n 0, 1) := by decide +kernel
theorem dX7_item_59 : decode cX7_item 59 = .ok (.getfield 32, 3) := by decide +kernel
theorem dX7_item_62 : decode cX7_item 62 = .ok (.bipush 28, 2) := by decide +kernel
theorem dX7_item_64 : decode cX7_item 64 = .ok (.iload_n 1, 1) := by decide +kernel
theorem dX7_item_65 : decode cX7_item 65 = .ok (.imul, 1) := by decide +kernel
theorem dX7_item_66 : decode cX7_item 66 = .ok (.iload_n 3, 1) := by decide +kernel
theorem dX7_item_67 : decode cX7_item 67 = .ok (.iadd, 1) := by decide +kernel
theorem dX7_item_68 : decode cX7_item 68 = .ok (.iload_n 2, 1) := by decide +kernel
theorem dX7_item_69 : decode cX7_item 69 = .ok (.ifCond .ne 14, 3) := by decide +kernel
theorem dX7_item_72 : decode cX7_item 72 = .ok (.iload 4, 2) := by decide +kernel
theorem dX7_item_74 : decode cX7_item 74 = .ok (.bipush 24, 2) := by decide +kernel
theorem dX7_item_76 : decode cX7_item 76 = .ok (.ishl, 1) := by decide +kernel
theorem dX7_item_77 : decode cX7_item 77 = .ok (.bipush 24, 2) := by decide +kernel
theorem dX7_item_79 : decode cX7_item 79 = .ok (.ishr, 1) := by decide +kernel
theorem dX7_item_80 : decode cX7_item 80 = .ok (.goto 5, 3) := by decide +kernel
theorem dX7_item_83 : decode cX7_item 83 = .ok (.iload 4, 2) := by decide +kernel
theorem dX7_item_85 : decode cX7_item 85 = .ok (.iastore, 1) := by decide +kernel
theorem dX7_item_86 : decode cX7_item 86 = .ok (.iconst 1, 1) := by decide +kernel
theorem dX7_item_87 : decode cX7_item 87 = .ok (.ireturn, 1) := by decide +kernel
theorem dX7_read_0 : decode cX7_read 0 = .ok (.iload_n 1, 1) := by decide +kernel
theorem dX7_read_1 : decode cX7_read 1 = .ok (.iload_n 2, 1) := by decide +kernel
theorem dX7_read_2 : decode cX7_read 2 = .ok (.invokestatic 71, 3) := by decide +kernel
theorem dX7_read_5 : decode cX7_read 5 = .ok (.ifCond .ne 5, 3) := by decide +kernel
theorem dX7_read_8 : decode cX7_read 8 = .ok (.iconst (-1), 1) := by decide +kernel
theorem dX7_read_9 : decode cX7_read 9 = .ok (.ireturn, 1) := by decide +kernel
theorem dX7_read_10 : decode cX7_read 10 = .ok (.aload_n 0, 1) := by decide +kernel
theorem dX7_read_11 : decode cX7_read 11 = .ok (.getfield 26, 3) := by decide +kernel
theorem dX7_read_14 : decode cX7_read 14 = .ok (.iload_n 1, 1) := by decide +kernel
theorem dX7_read_15 : decode cX7_read 15 = .ok (.iaload, 1) := by decide +kernel
theorem dX7_read_16 : decode cX7_read 16 = .ok (.iload_n 2, 1) := by decide +kernel
theorem dX7_read_17 : decode cX7_read 17 = .ok (.if_icmp .eq 20, 3) := by decide +kernel
theorem dX7_read_20 : decode cX7_read 20 = .ok (.aload_n 0, 1) := by decide +kernel
theorem dX7_read_21 : decode cX7_read 21 = .ok (.getfield 26, 3) := by decide +kernel
theorem dX7_read_24 : decode cX7_read 24 = .ok (.iload_n 1, 1) := by decide +kernel
theorem dX7_read_25 : decode cX7_read 25 = .ok (.iaload, 1) := by decide +kernel
theorem dX7_read_26 : decode cX7_read 26 = .ok (.ifCond .ge 8, 3) := by decide +kernel
theorem dX7_read_29 : decode cX7_read 29 = .ok (.bipush (-11), 2) := by decide +kernel
theorem dX7_read_31 : decode cX7_read 31 = .ok (.goto 5, 3) := by decide +kernel
theorem dX7_read_34 : decode cX7_read 34 = .ok (.bipush (-12), 2) := by decide +kernel
theorem dX7_read_36 : decode cX7_read 36 = .ok (.ireturn, 1) := by decide +kernel
theorem dX7_read_37 : decode cX7_read 37 = .ok (.iload_n 3, 1) := by decide +kernel
theorem dX7_read_38 : decode cX7_read 38 = .ok (.i2l, 1) := by decide +kernel
theorem dX7_read_39 : decode cX7_read 39 = .ok (.lconst 0, 1) := by decide +kernel
theorem dX7_read_40 : decode cX7_read 40 = .ok (.aload_n 0, 1) := by decide +kernel
theorem dX7_read_41 : decode cX7_read 41 = .ok (.getfield 29, 3) := by decide +kernel
theorem dX7_read_44 : decode cX7_read 44 = .ok (.iload_n 1, 1) := by decide +kernel
theorem dX7_read_45 : decode cX7_read 45 = .ok (.iaload, 1) := by decide +kernel
theorem dX7_read_46 : decode cX7_read 46 = .ok (.iconst 4, 1) := by decide +kernel
theorem dX7_read_47 : decode cX7_read 47 = .ok (.aload_n 0, 1) := by decide +kernel
theorem dX7_read_48 : decode cX7_read 48 = .ok (.getfield 7, 3) := by decide +kernel
theorem dX7_read_51 : decode cX7_read 51 = .ok (.imul, 1) := by decide +kernel
theorem dX7_read_52 : decode cX7_read 52 = .ok (.isub, 1) := by decide +kernel
theorem dX7_read_53 : decode cX7_read 53 = .ok (.iconst 4, 1) := by decide +kernel
theorem dX7_read_54 : decode cX7_read 54 = .ok (.isub, 1) := by decide +kernel
theorem dX7_read_55 : decode cX7_read 55 = .ok (.i2l, 1) := by decide +kernel
theorem dX7_read_56 : decode cX7_read 56 = .ok (.invokestatic 59, 3) := by decide +kernel
theorem dX7_read_59 : decode cX7_read 59 = .ok (.ifCond .ne 6, 3) := by decide +kernel
theorem dX7_read_62 : decode cX7_read 62 = .ok (.bipush (-13), 2) := by decide +kernel
theorem dX7_read_64 : decode cX7_read 64 = .ok (.ireturn, 1) := by decide +kernel
theorem dX7_read_65 : decode cX7_read 65 = .ok (.bipush 28, 2) := by decide +kernel
theorem dX7_read_67 : decode cX7_read 67 = .ok (.iload_n 1, 1) := by decide +kernel
theorem dX7_read_68 : decode cX7_read 68 = .ok (.imul, 1) := by decide +kernel
theorem dX7_read_69 : decode cX7_read 69 = .ok (.iload_n 3, 1) := by decide +kernel
theorem dX7_read_70 : decode cX7_read 70 = .ok (.iadd, 1) := by decide +kernel
theorem dX7_read_71 : decode cX7_read 71 = .ok (.istore 4, 2) := by decide +kernel
theorem dX7_read_73 : decode cX7_read 73 = .ok (.iconst 0, 1) := by decide +kernel
theorem dX7_read_74 : decode cX7_read 74 = .ok (.istore 5, 2) := by decide +kernel
theorem dX7_read_76 : decode cX7_read 76 = .ok (.iload 5, 2) := by decide +kernel
theorem dX7_read_78 : decode cX7_read 78 = .ok (.aload_n 0, 1) := by decide +kernel
theorem dX7_read_79 : decode cX7_read 79 = .ok (.getfield 7, 3) := by decide +kernel
theorem dX7_read_82 : decode cX7_read 82 = .ok (.if_icmp .gt 150, 3) := by decide +kernel
theorem dX7_read_85 : decode cX7_read 85 = .ok (.aload_n 0, 1) := by decide +kernel
theorem dX7_read_86 : decode cX7_read 86 = .ok (.getfield 32, 3) := by decide +kernel
theorem dX7_read_89 : decode cX7_read 89 = .ok (.iload 4, 2) := by decide +kernel
theorem dX7_read_91 : decode cX7_read 91 = .ok (.iconst 4, 1) := by decide +kernel
theorem dX7_read_92 : decode cX7_read 92 = .ok (.iload 5, 2) := by decide +kernel
theorem dX7_read_94 : decode cX7_read 94 = .ok (.imul, 1) := by decide +kernel
theorem dX7_read_95 : decode cX7_read 95 = .ok (.iadd, 1) := by decide +kernel
theorem dX7_read_96 : decode cX7_read 96 = .ok (.iaload, 1) := by decide +kernel
theorem dX7_read_97 : decode cX7_read 97 = .ok (.istore 6, 2) := by decide +kernel
theorem dX7_read_99 : decode cX7_read 99 = .ok (.iload 5, 2) := by decide +kernel
theorem dX7_read_101 : decode cX7_read 101 = .ok (.ifCond .ne 7, 3) := by decide +kernel
theorem dX7_read_104 : decode cX7_read 104 = .ok (.iconst (-1), 1) := by decide +kernel
theorem dX7_read_105 : decode cX7_read 105 = .ok (.goto 17, 3) := by decide +kernel
theorem dX7_read_108 : decode cX7_read 108 = .ok (.aload_n 0, 1) := by decide +kernel
theorem dX7_read_109 : decode cX7_read 109 = .ok (.getfield 32, 3) := by decide +kernel
theorem dX7_read_112 : decode cX7_read 112 = .ok (.iload 4, 2) := by decide +kernel
theorem dX7_read_114 : decode cX7_read 114 = .ok (.iconst 4, 1) := by decide +kernel
theorem dX7_read_115 : decode cX7_read 115 = .ok (.iload 5, 2) := by decide +kernel
theorem dX7_read_117 : decode cX7_read 117 = .ok (.imul, 1) := by decide +kernel
theorem dX7_read_118 : decode cX7_read 118 = .ok (.iadd, 1) := by decide +kernel
theorem dX7_read_119 : decode cX7_read 119 = .ok (.iconst 4, 1) := by decide +kernel
theorem dX7_read_120 : decode cX7_read 120 = .ok (.isub, 1) := by decide +kernel
theorem dX7_read_121 : decode cX7_read 121 = .ok (.iaload, 1) := by decide +kernel
theorem dX7_read_122 : decode cX7_read 122 = .ok (.istore 7, 2) := by decide +kernel
theorem dX7_read_124 : decode cX7_read 124 = .ok (.aload_n 0, 1) := by decide +kernel
theorem dX7_read_125 : decode cX7_read 125 = .ok (.getfield 32, 3) := by decide +kernel
theorem dX7_read_128 : decode cX7_read 128 = .ok (.iload 4, 2) := by decide +kernel
theorem dX7_read_130 : decode cX7_read 130 = .ok (.iconst 4, 1) := by decide +kernel
theorem dX7_read_131 : decode cX7_read 131 = .ok (.iload 5, 2) := by decide +kernel
theorem dX7_read_133 : decode cX7_read 133 = .ok (.imul, 1) := by decide +kernel
theorem dX7_read_134 : decode cX7_read 134 = .ok (.iadd, 1) := by decide +kernel
theorem dX7_read_135 : decode cX7_read 135 = .ok (.iconst 2, 1) := by decide +kernel
theorem dX7_read_136 : decode cX7_read 136 = .ok (.iadd, 1) := by decide +kernel
theorem dX7_read_137 : decode cX7_read 137 = .ok (.iaload, 1) := by decide +kernel
theorem dX7_read_138 : decode cX7_read 138 = .ok (.istore 8, 2) := by decide +kernel
theorem dX7_read_140 : decode cX7_read 140 = .ok (.iload 5, 2) := by decide +kernel
theorem dX7_read_142 : decode cX7_read 142 = .ok (.ifCond .ne 8, 3) := by decide +kernel
theorem dX7_read_145 : decode cX7_read 145 = .ok (.iload 6, 2) := by decide +kernel
theorem dX7_read_147 : decode cX7_read 147 = .ok (.ifCond .ne 76, 3) := by decide +kernel
theorem dX7_read_150 : decode cX7_read 150 = .ok (.iload 6, 2) := by decide +kernel
end
section
theorem dX7_read_152 : decode cX7_read 152 = .ok (.iload 7, 2) := by decide +kernel
theorem dX7_read_154 : decode cX7_read 154 = .ok (.if_icmp .le 69, 3) := by decide +kernel
theorem dX7_read_157 : decode cX7_read 157 = .ok (.iload 6, 2) := by decide +kernel
theorem dX7_read_159 : decode cX7_read 159 = .ok (.bipush 20, 2) := by decide +kernel
theorem dX7_read_161 : decode cX7_read 161 = .ok (.if_icmp .gt 62, 3) := by decide +kernel
theorem dX7_read_164 : decode cX7_read 164 = .ok (.aload_n 0, 1) := by decide +kernel
theorem dX7_read_165 : decode cX7_read 165 = .ok (.getfield 32, 3) := by decide +kernel
theorem dX7_read_168 : decode cX7_read 168 = .ok (.iload 4, 2) := by decide +kernel
theorem dX7_read_170 : decode cX7_read 170 = .ok (.iconst 4, 1) := by decide +kernel
theorem dX7_read_171 : decode cX7_read 171 = .ok (.iload 5, 2) := by decide +kernel
theorem dX7_read_173 : decode cX7_read 173 = .ok (.imul, 1) := by decide +kernel
theorem dX7_read_174 : decode cX7_read 174 = .ok (.iadd, 1) := by decide +kernel
theorem dX7_read_175 : decode cX7_read 175 = .ok (.iconst 1, 1) := by decide +kernel
theorem dX7_read_176 : decode cX7_read 176 = .ok (.iadd, 1) := by decide +kernel
theorem dX7_read_177 : decode cX7_read 177 = .ok (.iaload, 1) := by decide +kernel
theorem dX7_read_178 : decode cX7_read 178 = .ok (.i2l, 1) := by decide +kernel
theorem dX7_read_179 : decode cX7_read 179 = .ok (.ldc2_w 65, 3) := by decide +kernel
theorem dX7_read_182 : decode cX7_read 182 = .ok (.iload 8, 2) := by decide +kernel
theorem dX7_read_184 : decode cX7_read 184 = .ok (.i2l, 1) := by decide +kernel
theorem dX7_read_185 : decode cX7_read 185 = .ok (.invokestatic 59, 3) := by decide +kernel
theorem dX7_read_188 : decode cX7_read 188 = .ok (.ifCond .eq 35, 3) := by decide +kernel
theorem dX7_read_191 : decode cX7_read 191 = .ok (.iload 8, 2) := by decide +kernel
theorem dX7_read_193 : decode cX7_read 193 = .ok (.bipush 20, 2) := by decide +kernel
theorem dX7_read_195 : decode cX7_read 195 = .ok (.if_icmp .gt 28, 3) := by decide +kernel
theorem dX7_read_198 : decode cX7_read 198 = .ok (.aload_n 0, 1) := by decide +kernel
theorem dX7_read_199 : decode cX7_read 199 = .ok (.getfield 32, 3) := by decide +kernel
theorem dX7_read_202 : decode cX7_read 202 = .ok (.iload 4, 2) := by decide +kernel
theorem dX7_read_204 : decode cX7_read 204 = .ok (.iconst 4, 1) := by decide +kernel
theorem dX7_read_205 : decode cX7_read 205 = .ok (.iload 5, 2) := by decide +kernel
theorem dX7_read_207 : decode cX7_read 207 = .ok (.imul, 1) := by decide +kernel
theorem dX7_read_208 : decode cX7_read 208 = .ok (.iadd, 1) := by decide +kernel
theorem dX7_read_209 : decode cX7_read 209 = .ok (.iconst 3, 1) := by decide +kernel
theorem dX7_read_210 : decode cX7_read 210 = .ok (.iadd, 1) := by decide +kernel
theorem dX7_read_211 : decode cX7_read 211 = .ok (.iaload, 1) := by decide +kernel
theorem dX7_read_212 : decode cX7_read 212 = .ok (.i2l, 1) := by decide +kernel
theorem dX7_read_213 : decode cX7_read 213 = .ok (.lconst 0, 1) := by decide +kernel
theorem dX7_read_214 : decode cX7_read 214 = .ok (.ldc2_w 67, 3) := by decide +kernel
theorem dX7_read_217 : decode cX7_read 217 = .ok (.invokestatic 59, 3) := by decide +kernel
theorem dX7_read_220 : decode cX7_read 220 = .ok (.ifCond .ne 6, 3) := by decide +kernel
theorem dX7_read_223 : decode cX7_read 223 = .ok (.bipush (-2), 2) := by decide +kernel
theorem dX7_read_225 : decode cX7_read 225 = .ok (.ireturn, 1) := by decide +kernel
theorem dX7_read_226 : decode cX7_read 226 = .ok (.iinc 5 1, 3) := by decide +kernel
theorem dX7_read_229 : decode cX7_read 229 = .ok (.goto (-153), 3) := by decide +kernel
theorem dX7_read_232 : decode cX7_read 232 = .ok (.iconst 0, 1) := by decide +kernel
theorem dX7_read_233 : decode cX7_read 233 = .ok (.istore 5, 2) := by decide +kernel
theorem dX7_read_235 : decode cX7_read 235 = .ok (.iload 5, 2) := by decide +kernel
theorem dX7_read_237 : decode cX7_read 237 = .ok (.aload_n 0, 1) := by decide +kernel
theorem dX7_read_238 : decode cX7_read 238 = .ok (.getfield 7, 3) := by decide +kernel
theorem dX7_read_241 : decode cX7_read 241 = .ok (.if_icmp .gt 109, 3) := by decide +kernel
theorem dX7_read_244 : decode cX7_read 244 = .ok (.aload_n 0, 1) := by decide +kernel
theorem dX7_read_245 : decode cX7_read 245 = .ok (.getfield 13, 3) := by decide +kernel
theorem dX7_read_248 : decode cX7_read 248 = .ok (.iload 5, 2) := by decide +kernel
theorem dX7_read_250 : decode cX7_read 250 = .ok (.aload_n 0, 1) := by decide +kernel
theorem dX7_read_251 : decode cX7_read 251 = .ok (.getfield 32, 3) := by decide +kernel
theorem dX7_read_254 : decode cX7_read 254 = .ok (.iload 4, 2) := by decide +kernel
theorem dX7_read_256 : decode cX7_read 256 = .ok (.iconst 4, 1) := by decide +kernel
theorem dX7_read_257 : decode cX7_read 257 = .ok (.iload 5, 2) := by decide +kernel
theorem dX7_read_259 : decode cX7_read 259 = .ok (.imul, 1) := by decide +kernel
theorem dX7_read_260 : decode cX7_read 260 = .ok (.iadd, 1) := by decide +kernel
theorem dX7_read_261 : decode cX7_read 261 = .ok (.iaload, 1) := by decide +kernel
theorem dX7_read_262 : decode cX7_read 262 = .ok (.iastore, 1) := by decide +kernel
theorem dX7_read_263 : decode cX7_read 263 = .ok (.aload_n 0, 1) := by decide +kernel
theorem dX7_read_264 : decode cX7_read 264 = .ok (.getfield 17, 3) := by decide +kernel
theorem dX7_read_267 : decode cX7_read 267 = .ok (.iload 5, 2) := by decide +kernel
theorem dX7_read_269 : decode cX7_read 269 = .ok (.aload_n 0, 1) := by decide +kernel
theorem dX7_read_270 : decode cX7_read 270 = .ok (.getfield 32, 3) := by decide +kernel
theorem dX7_read_273 : decode cX7_read 273 = .ok (.iload 4, 2) := by decide +kernel
theorem dX7_read_275 : decode cX7_read 275 = .ok (.iconst 4, 1) := by decide +kernel
theorem dX7_read_276 : decode cX7_read 276 = .ok (.iload 5, 2) := by decide +kernel
theorem dX7_read_278 : decode cX7_read 278 = .ok (.imul, 1) := by decide +kernel
theorem dX7_read_279 : decode cX7_read 279 = .ok (.iadd, 1) := by decide +kernel
theorem dX7_read_280 : decode cX7_read 280 = .ok (.iconst 1, 1) := by decide +kernel
theorem dX7_read_281 : decode cX7_read 281 = .ok (.iadd, 1) := by decide +kernel
theorem dX7_read_282 : decode cX7_read 282 = .ok (.iaload, 1) := by decide +kernel
theorem dX7_read_283 : decode cX7_read 283 = .ok (.iastore, 1) := by decide +kernel
theorem dX7_read_284 : decode cX7_read 284 = .ok (.aload_n 0, 1) := by decide +kernel
theorem dX7_read_285 : decode cX7_read 285 = .ok (.getfield 20, 3) := by decide +kernel
theorem dX7_read_288 : decode cX7_read 288 = .ok (.iload 5, 2) := by decide +kernel
theorem dX7_read_290 : decode cX7_read 290 = .ok (.aload_n 0, 1) := by decide +kernel
theorem dX7_read_291 : decode cX7_read 291 = .ok (.getfield 32, 3) := by decide +kernel
theorem dX7_read_294 : decode cX7_read 294 = .ok (.iload 4, 2) := by decide +kernel
theorem dX7_read_296 : decode cX7_read 296 = .ok (.iconst 4, 1) := by decide +kernel
theorem dX7_read_297 : decode cX7_read 297 = .ok (.iload 5, 2) := by decide +kernel
theorem dX7_read_299 : decode cX7_read 299 = .ok (.imul, 1) := by decide +kernel
theorem dX7_read_300 : decode cX7_read 300 = .ok (.iadd, 1) := by decide +kernel
theorem dX7_read_301 : decode cX7_read 301 = .ok (.iconst 2, 1) := by decide +kernel
theorem dX7_read_302 : decode cX7_read 302 = .ok (.iadd, 1) := by decide +kernel
theorem dX7_read_303 : decode cX7_read 303 = .ok (.iaload, 1) := by decide +kernel
theorem dX7_read_304 : decode cX7_read 304 = .ok (.iastore, 1) := by decide +kernel
theorem dX7_read_305 : decode cX7_read 305 = .ok (.aload_n 0, 1) := by decide +kernel
theorem dX7_read_306 : decode cX7_read 306 = .ok (.getfield 23, 3) := by decide +kernel
theorem dX7_read_309 : decode cX7_read 309 = .ok (.iload 5, 2) := by decide +kernel
theorem dX7_read_311 : decode cX7_read 311 = .ok (.iload 5, 2) := by decide +kernel
theorem dX7_read_313 : decode cX7_read 313 = .ok (.ifCond .eq 12, 3) := by decide +kernel
theorem dX7_read_316 : decode cX7_read 316 = .ok (.iload 5, 2) := by decide +kernel
theorem dX7_read_318 : decode cX7_read 318 = .ok (.aload_n 0, 1) := by decide +kernel
theorem dX7_read_319 : decode cX7_read 319 = .ok (.getfield 7, 3) := by decide +kernel
theorem dX7_read_322 : decode cX7_read 322 = .ok (.if_icmp .ne 7, 3) := by decide +kernel
theorem dX7_read_325 : decode cX7_read 325 = .ok (.iconst 0, 1) := by decide +kernel
theorem dX7_read_326 : decode cX7_read 326 = .ok (.goto 17, 3) := by decide +kernel
theorem dX7_read_329 : decode cX7_read 329 = .ok (.aload_n 0, 1) := by decide +kernel
theorem dX7_read_330 : decode cX7_read 330 = .ok (.getfield 32, 3) := by decide +kernel
theorem dX7_read_333 : decode cX7_read 333 = .ok (.iload 4, 2) := by decide +kernel
theorem dX7_read_335 : decode cX7_read 335 = .ok (.iconst 4, 1) := by decide +kernel
theorem dX7_read_336 : decode cX7_read 336 = .ok (.iload 5, 2) := by decide +kernel
theorem dX7_read_338 : decode cX7_read 338 = .ok (.imul, 1) := by decide +kernel
theorem dX7_read_339 : decode cX7_read 339 = .ok (.iadd, 1) := by decide +kernel
theorem dX7_read_340 : decode cX7_read 340 = .ok (.iconst 3, 1) := by decide +kernel
theorem dX7_read_341 : decode cX7_read 341 = .ok (.iadd, 1) := by decide +kernel
theorem dX7_read_342 : decode cX7_read 342 = .ok (.iaload, 1) := by decide +kernel
theorem dX7_read_343 : decode cX7_read 343 = .ok (.iastore, 1) := by decide +kernel
theorem dX7_read_344 : decode cX7_read 344 = .ok (.iinc 5 1, 3) := by decide +kernel
theorem dX7_read_347 : decode cX7_read 347 = .ok (.goto (-112), 3) := by decide +kernel
theorem dX7_read_350 : decode cX7_read 350 = .ok (.iconst 1, 1) := by decide +kernel
theorem dX7_read_351 : decode cX7_read 351 = .ok (.ireturn, 1) := by decide +kernel
theorem dX7_momentAt_0 : decode cX7_momentAt 0 = .ok (.iconst 0, 1) := by decide +kernel
theorem dX7_momentAt_1 : decode cX7_momentAt 1 = .ok (.istore_n 2, 1) := by decide +kernel
theorem dX7_momentAt_2 : decode cX7_momentAt 2 = .ok (.iconst 1, 1) := by decide +kernel
theorem dX7_momentAt_3 : decode cX7_momentAt 3 = .ok (.istore_n 3, 1) := by decide +kernel
theorem dX7_momentAt_4 : decode cX7_momentAt 4 = .ok (.iload_n 3, 1) := by decide +kernel
theorem dX7_momentAt_5 : decode cX7_momentAt 5 = .ok (.aload_n 0, 1) := by decide +kernel
theorem dX7_momentAt_6 : decode cX7_momentAt 6 = .ok (.getfield 7, 3) := by decide +kernel
theorem dX7_momentAt_9 : decode cX7_momentAt 9 = .ok (.if_icmp .ge 84, 3) := by decide +kernel
theorem dX7_momentAt_12 : decode cX7_momentAt 12 = .ok (.iload_n 2, 1) := by decide +kernel
theorem dX7_momentAt_13 : decode cX7_momentAt 13 = .ok (.aload_n 0, 1) := by decide +kernel
theorem dX7_momentAt_14 : decode cX7_momentAt 14 = .ok (.getfield 13, 3) := by decide +kernel
theorem dX7_momentAt_17 : decode cX7_momentAt 17 = .ok (.iload_n 1, 1) := by decide +kernel
theorem dX7_momentAt_18 : decode cX7_momentAt 18 = .ok (.iaload, 1) := by decide +kernel
theorem dX7_momentAt_19 : decode cX7_momentAt 19 = .ok (.aload_n 0, 1) := by decide +kernel
theorem dX7_momentAt_20 : decode cX7_momentAt 20 = .ok (.getfield 23, 3) := by decide +kernel
theorem dX7_momentAt_23 : decode cX7_momentAt 23 = .ok (.iload_n 3, 1) := by decide +kernel
theorem dX7_momentAt_24 : decode cX7_momentAt 24 = .ok (.iaload, 1) := by decide +kernel
theorem dX7_momentAt_25 : decode cX7_momentAt 25 = .ok (.imul, 1) := by decide +kernel
theorem dX7_momentAt_26 : decode cX7_momentAt 26 = .ok (.aload_n 0, 1) := by decide +kernel
theorem dX7_momentAt_27 : decode cX7_momentAt 27 = .ok (.getfield 13, 3) := by decide +kernel
theorem dX7_momentAt_30 : decode cX7_momentAt 30 = .ok (.aload_n 0, 1) := by decide +kernel
theorem dX7_momentAt_31 : decode cX7_momentAt 31 = .ok (.getfield 7, 3) := by decide +kernel
theorem dX7_momentAt_34 : decode cX7_momentAt 34 = .ok (.iaload, 1) := by decide +kernel
theorem dX7_momentAt_35 : decode cX7_momentAt 35 = .ok (.aload_n 0, 1) := by decide +kernel
theorem dX7_momentAt_36 : decode cX7_momentAt 36 = .ok (.getfield 13, 3) := by decide +kernel
theorem dX7_momentAt_39 : decode cX7_momentAt 39 = .ok (.iload_n 3, 1) := by decide +kernel
theorem dX7_momentAt_40 : decode cX7_momentAt 40 = .ok (.iaload, 1) := by decide +kernel
theorem dX7_momentAt_41 : decode cX7_momentAt 41 = .ok (.isub, 1) := by decide +kernel
theorem dX7_momentAt_42 : decode cX7_momentAt 42 = .ok (.imul, 1) := by decide +kernel
theorem dX7_momentAt_43 : decode cX7_momentAt 43 = .ok (.iadd, 1) := by decide +kernel
theorem dX7_momentAt_44 : decode cX7_momentAt 44 = .ok (.istore_n 2, 1) := by decide +kernel
theorem dX7_momentAt_45 : decode cX7_momentAt 45 = .ok (.iload_n 2, 1) := by decide +kernel
theorem dX7_momentAt_46 : decode cX7_momentAt 46 = .ok (.iload_n 3, 1) := by decide +kernel
theorem dX7_momentAt_47 : decode cX7_momentAt 47 = .ok (.iload_n 1, 1) := by decide +kernel
theorem dX7_momentAt_48 : decode cX7_momentAt 48 = .ok (.if_icmp .ge 36, 3) := by decide +kernel
theorem dX7_momentAt_51 : decode cX7_momentAt 51 = .ok (.aload_n 0, 1) := by decide +kernel
theorem dX7_momentAt_52 : decode cX7_momentAt 52 = .ok (.getfield 13, 3) := by decide +kernel
theorem dX7_momentAt_55 : decode cX7_momentAt 55 = .ok (.aload_n 0, 1) := by decide +kernel
theorem dX7_momentAt_56 : decode cX7_momentAt 56 = .ok (.getfield 7, 3) := by decide +kernel
theorem dX7_momentAt_59 : decode cX7_momentAt 59 = .ok (.iaload, 1) := by decide +kernel
theorem dX7_momentAt_60 : decode cX7_momentAt 60 = .ok (.aload_n 0, 1) := by decide +kernel
theorem dX7_momentAt_61 : decode cX7_momentAt 61 = .ok (.getfield 23, 3) := by decide +kernel
theorem dX7_momentAt_64 : decode cX7_momentAt 64 = .ok (.iload_n 3, 1) := by decide +kernel
theorem dX7_momentAt_65 : decode cX7_momentAt 65 = .ok (.iaload, 1) := by decide +kernel
theorem dX7_momentAt_66 : decode cX7_momentAt 66 = .ok (.imul, 1) := by decide +kernel
theorem dX7_momentAt_67 : decode cX7_momentAt 67 = .ok (.aload_n 0, 1) := by decide +kernel
theorem dX7_momentAt_68 : decode cX7_momentAt 68 = .ok (.getfield 13, 3) := by decide +kernel
theorem dX7_momentAt_71 : decode cX7_momentAt 71 = .ok (.iload_n 1, 1) := by decide +kernel
theorem dX7_momentAt_72 : decode cX7_momentAt 72 = .ok (.iaload, 1) := by decide +kernel
theorem dX7_momentAt_73 : decode cX7_momentAt 73 = .ok (.aload_n 0, 1) := by decide +kernel
theorem dX7_momentAt_74 : decode cX7_momentAt 74 = .ok (.getfield 13, 3) := by decide +kernel
theorem dX7_momentAt_77 : decode cX7_momentAt 77 = .ok (.iload_n 3, 1) := by decide +kernel
theorem dX7_momentAt_78 : decode cX7_momentAt 78 = .ok (.iaload, 1) := by decide +kernel
theorem dX7_momentAt_79 : decode cX7_momentAt 79 = .ok (.isub, 1) := by decide +kernel
theorem dX7_momentAt_80 : decode cX7_momentAt 80 = .ok (.imul, 1) := by decide +kernel
theorem dX7_momentAt_81 : decode cX7_momentAt 81 = .ok (.goto 4, 3) := by decide +kernel
theorem dX7_momentAt_84 : decode cX7_momentAt 84 = .ok (.iconst 0, 1) := by decide +kernel
theorem dX7_momentAt_85 : decode cX7_momentAt 85 = .ok (.isub, 1) := by decide +kernel
theorem dX7_momentAt_86 : decode cX7_momentAt 86 = .ok (.istore_n 2, 1) := by decide +kernel
theorem dX7_momentAt_87 : decode cX7_momentAt 87 = .ok (.iinc 3 1, 3) := by decide +kernel
theorem dX7_momentAt_90 : decode cX7_momentAt 90 = .ok (.goto (-86), 3) := by decide +kernel
theorem dX7_momentAt_93 : decode cX7_momentAt 93 = .ok (.iload_n 2, 1) := by decide +kernel
theorem dX7_momentAt_94 : decode cX7_momentAt 94 = .ok (.ireturn, 1) := by decide +kernel
theorem dX7_told_0 : decode cX7_told 0 = .ok (.iload_n 1, 1) := by decide +kernel
theorem dX7_told_1 : decode cX7_told 1 = .ok (.i2l, 1) := by decide +kernel
theorem dX7_told_2 : decode cX7_told 2 = .ok (.lconst 0, 1) := by decide +kernel
theorem dX7_told_3 : decode cX7_told 3 = .ok (.aload_n 0, 1) := by decide +kernel
theorem dX7_told_4 : decode cX7_told 4 = .ok (.getfield 7, 3) := by decide +kernel
theorem dX7_told_7 : decode cX7_told 7 = .ok (.i2l, 1) := by decide +kernel
theorem dX7_told_8 : decode cX7_told 8 = .ok (.invokestatic 59, 3) := by decide +kernel
theorem dX7_told_11 : decode cX7_told 11 = .ok (.ifCond .eq 15, 3) := by decide +kernel
theorem dX7_told_14 : decode cX7_told 14 = .ok (.iload_n 2, 1) := by decide +kernel
theorem dX7_told_15 : decode cX7_told 15 = .ok (.i2l, 1) := by decide +kernel
theorem dX7_told_16 : decode cX7_told 16 = .ok (.lconst 0, 1) := by decide +kernel
theorem dX7_told_17 : decode cX7_told 17 = .ok (.ldc2_w 75, 3) := by decide +kernel
theorem dX7_told_20 : decode cX7_told 20 = .ok (.invokestatic 59, 3) := by decide +kernel
theorem dX7_told_23 : decode cX7_told 23 = .ok (.ifCond .ne 6, 3) := by decide +kernel
theorem dX7_told_26 : decode cX7_told 26 = .ok (.ldc 77, 2) := by decide +kernel
theorem dX7_told_28 : decode cX7_told 28 = .ok (.ireturn, 1) := by decide +kernel
theorem dX7_told_29 : decode cX7_told 29 = .ok (.iload_n 2, 1) := by decide +kernel
theorem dX7_told_30 : decode cX7_told 30 = .ok (.ifCond .ne 12, 3) := by decide +kernel
theorem dX7_told_33 : decode cX7_told 33 = .ok (.aload_n 0, 1) := by decide +kernel
theorem dX7_told_34 : decode cX7_told 34 = .ok (.getfield 13, 3) := by decide +kernel
theorem dX7_told_37 : decode cX7_told 37 = .ok (.iload_n 1, 1) := by decide +kernel
theorem dX7_told_38 : decode cX7_told 38 = .ok (.iaload, 1) := by decide +kernel
theorem dX7_told_39 : decode cX7_told 39 = .ok (.goto 50, 3) := by decide +kernel
theorem dX7_told_42 : decode cX7_told 42 = .ok (.iload_n 2, 1) := by decide +kernel
theorem dX7_told_43 : decode cX7_told 43 = .ok (.iconst 1, 1) := by decide +kernel
theorem dX7_told_44 : decode cX7_told 44 = .ok (.if_icmp .ne 12, 3) := by decide +kernel
theorem dX7_told_47 : decode cX7_told 47 = .ok (.aload_n 0, 1) := by decide +kernel
theorem dX7_told_48 : decode cX7_told 48 = .ok (.getfield 17, 3) := by decide +kernel
theorem dX7_told_51 : decode cX7_told 51 = .ok (.iload_n 1, 1) := by decide +kernel
theorem dX7_told_52 : decode cX7_told 52 = .ok (.iaload, 1) := by decide +kernel
theorem dX7_told_53 : decode cX7_told 53 = .ok (.goto 36, 3) := by decide +kernel
theorem dX7_told_56 : decode cX7_told 56 = .ok (.iload_n 2, 1) := by decide +kernel
theorem dX7_told_57 : decode cX7_told 57 = .ok (.iconst 2, 1) := by decide +kernel
theorem dX7_told_58 : decode cX7_told 58 = .ok (.if_icmp .ne 12, 3) := by decide +kernel
theorem dX7_told_61 : decode cX7_told 61 = .ok (.aload_n 0, 1) := by decide +kernel
theorem dX7_told_62 : decode cX7_told 62 = .ok (.getfield 20, 3) := by decide +kernel
theorem dX7_told_65 : decode cX7_told 65 = .ok (.iload_n 1, 1) := by decide +kernel
theorem dX7_told_66 : decode cX7_told 66 = .ok (.iaload, 1) := by decide +kernel
theorem dX7_told_67 : decode cX7_told 67 = .ok (.goto 22, 3) := by decide +kernel
theorem dX7_told_70 : decode cX7_told 70 = .ok (.iload_n 2, 1) := by decide +kernel
theorem dX7_told_71 : decode cX7_told 71 = .ok (.iconst 3, 1) := by decide +kernel
theorem dX7_told_72 : decode cX7_told 72 = .ok (.if_icmp .ne 12, 3) := by decide +kernel
theorem dX7_told_75 : decode cX7_told 75 = .ok (.aload_n 0, 1) := by decide +kernel
theorem dX7_told_76 : decode cX7_told 76 = .ok (.getfield 23, 3) := by decide +kernel
theorem dX7_told_79 : decode cX7_told 79 = .ok (.iload_n 1, 1) := by decide +kernel
theorem dX7_told_80 : decode cX7_told 80 = .ok (.iaload, 1) := by decide +kernel
theorem dX7_told_81 : decode cX7_told 81 = .ok (.goto 8, 3) := by decide +kernel
theorem dX7_told_84 : decode cX7_told 84 = .ok (.aload_n 0, 1) := by decide +kernel
theorem dX7_told_85 : decode cX7_told 85 = .ok (.iload_n 1, 1) := by decide +kernel
theorem dX7_told_86 : decode cX7_told 86 = .ok (.invokevirtual 78, 3) := by decide +kernel
theorem dX7_told_89 : decode cX7_told 89 = .ok (.ireturn, 1) := by decide +kernel
theorem dX7_setRow_0 : decode cX7_setRow 0 = .ok (.aload_n 0, 1) := by decide +kernel
theorem dX7_setRow_1 : decode cX7_setRow 1 = .ok (.getfield 35, 3) := by decide +kernel
theorem dX7_setRow_4 : decode cX7_setRow 4 = .ok (.iconst 5, 1) := by decide +kernel
theorem dX7_setRow_5 : decode cX7_setRow 5 = .ok (.iload_n 1, 1) := by decide +kernel
theorem dX7_setRow_6 : decode cX7_setRow 6 = .ok (.imul, 1) := by decide +kernel
theorem dX7_setRow_7 : decode cX7_setRow 7 = .ok (.lload_n 2, 1) := by decide +kernel
theorem dX7_setRow_8 : decode cX7_setRow 8 = .ok (.lastore, 1) := by decide +kernel
theorem dX7_setRow_9 : decode cX7_setRow 9 = .ok (.aload_n 0, 1) := by decide +kernel
theorem dX7_setRow_10 : decode cX7_setRow 10 = .ok (.getfield 35, 3) := by decide +kernel
theorem dX7_setRow_13 : decode cX7_setRow 13 = .ok (.iconst 5, 1) := by decide +kernel
theorem dX7_setRow_14 : decode cX7_setRow 14 = .ok (.iload_n 1, 1) := by decide +kernel
theorem dX7_setRow_15 : decode cX7_setRow 15 = .ok (.imul, 1) := by decide +kernel
theorem dX7_setRow_16 : decode cX7_setRow 16 = .ok (.iconst 1, 1) := by decide +kernel
theorem dX7_setRow_17 : decode cX7_setRow 17 = .ok (.iadd, 1) := by decide +kernel
theorem dX7_setRow_18 : decode cX7_setRow 18 = .ok (.lload 4, 2) := by decide +kernel
theorem dX7_setRow_20 : decode cX7_setRow 20 = .ok (.lastore, 1) := by decide +kernel
theorem dX7_setRow_21 : decode cX7_setRow 21 = .ok (.aload_n 0, 1) := by decide +kernel
theorem dX7_setRow_22 : decode cX7_setRow 22 = .ok (.getfield 35, 3) := by decide +kernel
theorem dX7_setRow_25 : decode cX7_setRow 25 = .ok (.iconst 5, 1) := by decide +kernel
theorem dX7_setRow_26 : decode cX7_setRow 26 = .ok (.iload_n 1, 1) := by decide +kernel
theorem dX7_setRow_27 : decode cX7_setRow 27 = .ok (.imul, 1) := by decide +kernel
theorem dX7_setRow_28 : decode cX7_setRow 28 = .ok (.iconst 2, 1) := by decide +kernel
theorem dX7_setRow_29 : decode cX7_setRow 29 = .ok (.iadd, 1) := by decide +kernel
theorem dX7_setRow_30 : decode cX7_setRow 30 = .ok (.lload 6, 2) := by decide +kernel
theorem dX7_setRow_32 : decode cX7_setRow 32 = .ok (.lastore, 1) := by decide +kernel
theorem dX7_setRow_33 : decode cX7_setRow 33 = .ok (.aload_n 0, 1) := by decide +kernel
theorem dX7_setRow_34 : decode cX7_setRow 34 = .ok (.getfield 35, 3) := by decide +kernel
theorem dX7_setRow_37 : decode cX7_setRow 37 = .ok (.iconst 5, 1) := by decide +kernel
theorem dX7_setRow_38 : decode cX7_setRow 38 = .ok (.iload_n 1, 1) := by decide +kernel
theorem dX7_setRow_39 : decode cX7_setRow 39 = .ok (.imul, 1) := by decide +kernel
theorem dX7_setRow_40 : decode cX7_setRow 40 = .ok (.iconst 3, 1) := by decide +kernel
theorem dX7_setRow_41 : decode cX7_setRow 41 = .ok (.iadd, 1) := by decide +kernel
theorem dX7_setRow_42 : decode cX7_setRow 42 = .ok (.lload 8, 2) := by decide +kernel
theorem dX7_setRow_44 : decode cX7_setRow 44 = .ok (.lastore, 1) := by decide +kernel
theorem dX7_setRow_45 : decode cX7_setRow 45 = .ok (.aload_n 0, 1) := by decide +kernel
theorem dX7_setRow_46 : decode cX7_setRow 46 = .ok (.getfield 35, 3) := by decide +kernel
theorem dX7_setRow_49 : decode cX7_setRow 49 = .ok (.iconst 5, 1) := by decide +kernel
theorem dX7_setRow_50 : decode cX7_setRow 50 = .ok (.iload_n 1, 1) := by decide +kernel
theorem dX7_setRow_51 : decode cX7_setRow 51 = .ok (.imul, 1) := by decide +kernel
theorem dX7_setRow_52 : decode cX7_setRow 52 = .ok (.iconst 4, 1) := by decide +kernel
theorem dX7_setRow_53 : decode cX7_setRow 53 = .ok (.iadd, 1) := by decide +kernel
theorem dX7_setRow_54 : decode cX7_setRow 54 = .ok (.lload 10, 2) := by decide +kernel
theorem dX7_setRow_56 : decode cX7_setRow 56 = .ok (.lastore, 1) := by decide +kernel
theorem dX7_setRow_57 : decode cX7_setRow 57 = .ok (.return_, 1) := by decide +kernel
theorem dX7_findRows_0 : decode cX7_findRows 0 = .ok (.aload_n 0, 1) := by decide +kernel
theorem dX7_findRows_1 : decode cX7_findRows 1 = .ok (.getfield 13, 3) := by decide +kernel
theorem dX7_findRows_4 : decode cX7_findRows 4 = .ok (.aload_n 0, 1) := by decide +kernel
theorem dX7_findRows_5 : decode cX7_findRows 5 = .ok (.getfield 7, 3) := by decide +kernel
theorem dX7_findRows_8 : decode cX7_findRows 8 = .ok (.iaload, 1) := by decide +kernel
theorem dX7_findRows_9 : decode cX7_findRows 9 = .ok (.i2l, 1) := by decide +kernel
theorem dX7_findRows_10 : decode cX7_findRows 10 = .ok (.lstore_n 2, 1) := by decide +kernel
theorem dX7_findRows_11 : decode cX7_findRows 11 = .ok (.iconst 0, 1) := by decide +kernel
theorem dX7_findRows_12 : decode cX7_findRows 12 = .ok (.istore 4, 2) := by decide +kernel
theorem dX7_findRows_14 : decode cX7_findRows 14 = .ok (.iload 4, 2) := by decide +kernel
theorem dX7_findRows_16 : decode cX7_findRows 16 = .ok (.aload_n 0, 1) := by decide +kernel
theorem dX7_findRows_17 : decode cX7_findRows 17 = .ok (.getfield 7, 3) := by decide +kernel
theorem dX7_findRows_20 : decode cX7_findRows 20 = .ok (.if_icmp .gt 206, 3) := by decide +kernel
theorem dX7_findRows_23 : decode cX7_findRows 23 = .ok (.lload_n 2, 1) := by decide +kernel
theorem dX7_findRows_24 : decode cX7_findRows 24 = .ok (.aload_n 0, 1) := by decide +kernel
theorem dX7_findRows_25 : decode cX7_findRows 25 = .ok (.getfield 13, 3) := by decide +kernel
theorem dX7_findRows_28 : decode cX7_findRows 28 = .ok (.iload 4, 2) := by decide +kernel
theorem dX7_findRows_30 : decode cX7_findRows 30 = .ok (.iaload, 1) := by decide +kernel
theorem dX7_findRows_31 : decode cX7_findRows 31 = .ok (.i2l, 1) := by decide +kernel
theorem dX7_findRows_32 : decode cX7_findRows 32 = .ok (.lsub, 1) := by decide +kernel
theorem dX7_findRows_33 : decode cX7_findRows 33 = .ok (.lstore 5, 2) := by decide +kernel
theorem dX7_findRows_35 : decode cX7_findRows 35 = .ok (.aload_n 0, 1) := by decide +kernel
theorem dX7_findRows_36 : decode cX7_findRows 36 = .ok (.getfield 13, 3) := by decide +kernel
theorem dX7_findRows_39 : decode cX7_findRows 39 = .ok (.iload 4, 2) := by decide +kernel
theorem dX7_findRows_41 : decode cX7_findRows 41 = .ok (.iaload, 1) := by decide +kernel
theorem dX7_findRows_42 : decode cX7_findRows 42 = .ok (.i2l, 1) := by decide +kernel
theorem dX7_findRows_43 : decode cX7_findRows 43 = .ok (.lstore 7, 2) := by decide +kernel
theorem dX7_findRows_45 : decode cX7_findRows 45 = .ok (.aload_n 0, 1) := by decide +kernel
theorem dX7_findRows_46 : decode cX7_findRows 46 = .ok (.iload 4, 2) := by decide +kernel
theorem dX7_findRows_48 : decode cX7_findRows 48 = .ok (.invokevirtual 78, 3) := by decide +kernel
theorem dX7_findRows_51 : decode cX7_findRows 51 = .ok (.i2l, 1) := by decide +kernel
theorem dX7_findRows_52 : decode cX7_findRows 52 = .ok (.lstore 9, 2) := by decide +kernel
theorem dX7_findRows_54 : decode cX7_findRows 54 = .ok (.iload_n 1, 1) := by decide +kernel
theorem dX7_findRows_55 : decode cX7_findRows 55 = .ok (.ifCond .eq 109, 3) := by decide +kernel
theorem dX7_findRows_58 : decode cX7_findRows 58 = .ok (.lload_n 2, 1) := by decide +kernel
theorem dX7_findRows_59 : decode cX7_findRows 59 = .ok (.aload_n 0, 1) := by decide +kernel
theorem dX7_findRows_60 : decode cX7_findRows 60 = .ok (.getfield 20, 3) := by decide +kernel
theorem dX7_findRows_63 : decode cX7_findRows 63 = .ok (.iload 4, 2) := by decide +kernel
theorem dX7_findRows_65 : decode cX7_findRows 65 = .ok (.iaload, 1) := by decide +kernel
theorem dX7_findRows_66 : decode cX7_findRows 66 = .ok (.aload_n 0, 1) := by decide +kernel
theorem dX7_findRows_67 : decode cX7_findRows 67 = .ok (.getfield 17, 3) := by decide +kernel
theorem dX7_findRows_70 : decode cX7_findRows 70 = .ok (.iload 4, 2) := by decide +kernel
theorem dX7_findRows_72 : decode cX7_findRows 72 = .ok (.iaload, 1) := by decide +kernel
theorem dX7_findRows_73 : decode cX7_findRows 73 = .ok (.isub, 1) := by decide +kernel
theorem dX7_findRows_74 : decode cX7_findRows 74 = .ok (.i2l, 1) := by decide +kernel
theorem dX7_findRows_75 : decode cX7_findRows 75 = .ok (.lmul, 1) := by decide +kernel
theorem dX7_findRows_76 : decode cX7_findRows 76 = .ok (.lstore 11, 2) := by decide +kernel
theorem dX7_findRows_78 : decode cX7_findRows 78 = .ok (.lload_n 2, 1) := by decide +kernel
theorem dX7_findRows_79 : decode cX7_findRows 79 = .ok (.aload_n 0, 1) := by decide +kernel
theorem dX7_findRows_80 : decode cX7_findRows 80 = .ok (.getfield 20, 3) := by decide +kernel
theorem dX7_findRows_83 : decode cX7_findRows 83 = .ok (.iload 4, 2) := by decide +kernel
theorem dX7_findRows_85 : decode cX7_findRows 85 = .ok (.iaload, 1) := by decide +kernel
theorem dX7_findRows_86 : decode cX7_findRows 86 = .ok (.aload_n 0, 1) := by decide +kernel
theorem dX7_findRows_87 : decode cX7_findRows 87 = .ok (.getfield 17, 3) := by decide +kernel
theorem dX7_findRows_90 : decode cX7_findRows 90 = .ok (.iload 4, 2) := by decide +kernel
theorem dX7_findRows_92 : decode cX7_findRows 92 = .ok (.iaload, 1) := by decide +kernel
theorem dX7_findRows_93 : decode cX7_findRows 93 = .ok (.iadd, 1) := by decide +kernel
theorem dX7_findRows_94 : decode cX7_findRows 94 = .ok (.i2l, 1) := by decide +kernel
theorem dX7_findRows_95 : decode cX7_findRows 95 = .ok (.lmul, 1) := by decide +kernel
theorem dX7_findRows_96 : decode cX7_findRows 96 = .ok (.lstore 13, 2) := by decide +kernel
theorem dX7_findRows_98 : decode cX7_findRows 98 = .ok (.aload_n 0, 1) := by decide +kernel
theorem dX7_findRows_99 : decode cX7_findRows 99 = .ok (.iconst 2, 1) := by decide +kernel
theorem dX7_findRows_100 : decode cX7_findRows 100 = .ok (.iload 4, 2) := by decide +kernel
theorem dX7_findRows_102 : decode cX7_findRows 102 = .ok (.imul, 1) := by decide +kernel
theorem dX7_findRows_103 : decode cX7_findRows 103 = .ok (.ldc2_w 55, 3) := by decide +kernel
theorem dX7_findRows_106 : decode cX7_findRows 106 = .ok (.lload 5, 2) := by decide +kernel
theorem dX7_findRows_108 : decode cX7_findRows 108 = .ok (.lmul, 1) := by decide +kernel
theorem dX7_findRows_109 : decode cX7_findRows 109 = .ok (.ldc2_w 55, 3) := by decide +kernel
theorem dX7_findRows_112 : decode cX7_findRows 112 = .ok (.lload 7, 2) := by decide +kernel
theorem dX7_findRows_114 : decode cX7_findRows 114 = .ok (.lmul, 1) := by decide +kernel
theorem dX7_findRows_115 : decode cX7_findRows 115 = .ok (.ldc2_w 55, 3) := by decide +kernel
theorem dX7_findRows_118 : decode cX7_findRows 118 = .ok (.lload 9, 2) := by decide +kernel
theorem dX7_findRows_120 : decode cX7_findRows 120 = .ok (.lmul, 1) := by decide +kernel
theorem dX7_findRows_121 : decode cX7_findRows 121 = .ok (.lload 11, 2) := by decide +kernel
theorem dX7_findRows_123 : decode cX7_findRows 123 = .ok (.lload 13, 2) := by decide +kernel
theorem dX7_findRows_125 : decode cX7_findRows 125 = .ok (.invokevirtual 82, 3) := by decide +kernel
theorem dX7_findRows_128 : decode cX7_findRows 128 = .ok (.aload_n 0, 1) := by decide +kernel
theorem dX7_findRows_129 : decode cX7_findRows 129 = .ok (.iconst 2, 1) := by decide +kernel
theorem dX7_findRows_130 : decode cX7_findRows 130 = .ok (.iload 4, 2) := by decide +kernel
theorem dX7_findRows_132 : decode cX7_findRows 132 = .ok (.imul, 1) := by decide +kernel
theorem dX7_findRows_133 : decode cX7_findRows 133 = .ok (.iconst 1, 1) := by decide +kernel
theorem dX7_findRows_134 : decode cX7_findRows 134 = .ok (.iadd, 1) := by decide +kernel
theorem dX7_findRows_135 : decode cX7_findRows 135 = .ok (.ldc2_w 86, 3) := by decide +kernel
theorem dX7_findRows_138 : decode cX7_findRows 138 = .ok (.lload 5, 2) := by decide +kernel
theorem dX7_findRows_140 : decode cX7_findRows 140 = .ok (.lmul, 1) := by decide +kernel
theorem dX7_findRows_141 : decode cX7_findRows 141 = .ok (.ldc2_w 86, 3) := by decide +kernel
theorem dX7_findRows_144 : decode cX7_findRows 144 = .ok (.lload 7, 2) := by decide +kernel
theorem dX7_findRows_146 : decode cX7_findRows 146 = .ok (.lmul, 1) := by decide +kernel
theorem dX7_findRows_147 : decode cX7_findRows 147 = .ok (.ldc2_w 86, 3) := by decide +kernel
theorem dX7_findRows_150 : decode cX7_findRows 150 = .ok (.lload 9, 2) := by decide +kernel
theorem dX7_findRows_152 : decode cX7_findRows 152 = .ok (.lmul, 1) := by decide +kernel
theorem dX7_findRows_153 : decode cX7_findRows 153 = .ok (.lload 11, 2) := by decide +kernel
theorem dX7_findRows_155 : decode cX7_findRows 155 = .ok (.lload 13, 2) := by decide +kernel
theorem dX7_findRows_157 : decode cX7_findRows 157 = .ok (.lneg, 1) := by decide +kernel
theorem dX7_findRows_158 : decode cX7_findRows 158 = .ok (.invokevirtual 82, 3) := by decide +kernel
theorem dX7_findRows_161 : decode cX7_findRows 161 = .ok (.goto 59, 3) := by decide +kernel
theorem dX7_findRows_164 : decode cX7_findRows 164 = .ok (.aload_n 0, 1) := by decide +kernel
theorem dX7_findRows_165 : decode cX7_findRows 165 = .ok (.iconst 2, 1) := by decide +kernel
theorem dX7_findRows_166 : decode cX7_findRows 166 = .ok (.iload 4, 2) := by decide +kernel
theorem dX7_findRows_168 : decode cX7_findRows 168 = .ok (.imul, 1) := by decide +kernel
theorem dX7_findRows_169 : decode cX7_findRows 169 = .ok (.lload 5, 2) := by decide +kernel
theorem dX7_findRows_171 : decode cX7_findRows 171 = .ok (.lload 7, 2) := by decide +kernel
theorem dX7_findRows_173 : decode cX7_findRows 173 = .ok (.lload 9, 2) := by decide +kernel
theorem dX7_findRows_175 : decode cX7_findRows 175 = .ok (.lconst 0, 1) := by decide +kernel
theorem dX7_findRows_176 : decode cX7_findRows 176 = .ok (.lload_n 2, 1) := by decide +kernel
theorem dX7_findRows_177 : decode cX7_findRows 177 = .ok (.aload_n 0, 1) := by decide +kernel
theorem dX7_findRows_178 : decode cX7_findRows 178 = .ok (.getfield 17, 3) := by decide +kernel
theorem dX7_findRows_181 : decode cX7_findRows 181 = .ok (.iload 4, 2) := by decide +kernel
theorem dX7_findRows_183 : decode cX7_findRows 183 = .ok (.iaload, 1) := by decide +kernel
theorem dX7_findRows_184 : decode cX7_findRows 184 = .ok (.i2l, 1) := by decide +kernel
theorem dX7_findRows_185 : decode cX7_findRows 185 = .ok (.lmul, 1) := by decide +kernel
theorem dX7_findRows_186 : decode cX7_findRows 186 = .ok (.invokevirtual 82, 3) := by decide +kernel
theorem dX7_findRows_189 : decode cX7_findRows 189 = .ok (.aload_n 0, 1) := by decide +kernel
theorem dX7_findRows_190 : decode cX7_findRows 190 = .ok (.iconst 2, 1) := by decide +kernel
theorem dX7_findRows_191 : decode cX7_findRows 191 = .ok (.iload 4, 2) := by decide +kernel
theorem dX7_findRows_193 : decode cX7_findRows 193 = .ok (.imul, 1) := by decide +kernel
theorem dX7_findRows_194 : decode cX7_findRows 194 = .ok (.iconst 1, 1) := by decide +kernel
theorem dX7_findRows_195 : decode cX7_findRows 195 = .ok (.iadd, 1) := by decide +kernel
theorem dX7_findRows_196 : decode cX7_findRows 196 = .ok (.lload 5, 2) := by decide +kernel
theorem dX7_findRows_198 : decode cX7_findRows 198 = .ok (.lneg, 1) := by decide +kernel
theorem dX7_findRows_199 : decode cX7_findRows 199 = .ok (.lload 7, 2) := by decide +kernel
theorem dX7_findRows_201 : decode cX7_findRows 201 = .ok (.lneg, 1) := by decide +kernel
theorem dX7_findRows_202 : decode cX7_findRows 202 = .ok (.lload 9, 2) := by decide +kernel
theorem dX7_findRows_204 : decode cX7_findRows 204 = .ok (.lneg, 1) := by decide +kernel
theorem dX7_findRows_205 : decode cX7_findRows 205 = .ok (.lconst 0, 1) := by decide +kernel
theorem dX7_findRows_206 : decode cX7_findRows 206 = .ok (.lload_n 2, 1) := by decide +kernel
theorem dX7_findRows_207 : decode cX7_findRows 207 = .ok (.lneg, 1) := by decide +kernel
theorem dX7_findRows_208 : decode cX7_findRows 208 = .ok (.aload_n 0, 1) := by decide +kernel
theorem dX7_findRows_209 : decode cX7_findRows 209 = .ok (.getfield 20, 3) := by decide +kernel
theorem dX7_findRows_212 : decode cX7_findRows 212 = .ok (.iload 4, 2) := by decide +kernel
theorem dX7_findRows_214 : decode cX7_findRows 214 = .ok (.iaload, 1) := by decide +kernel
theorem dX7_findRows_215 : decode cX7_findRows 215 = .ok (.i2l, 1) := by decide +kernel
theorem dX7_findRows_216 : decode cX7_findRows 216 = .ok (.lmul, 1) := by decide +kernel
theorem dX7_findRows_217 : decode cX7_findRows 217 = .ok (.invokevirtual 82, 3) := by decide +kernel
theorem dX7_findRows_220 : decode cX7_findRows 220 = .ok (.iinc 4 1, 3) := by decide +kernel
theorem dX7_findRows_223 : decode cX7_findRows 223 = .ok (.goto (-209), 3) := by decide +kernel
theorem dX7_findRows_226 : decode cX7_findRows 226 = .ok (.aload_n 0, 1) := by decide +kernel
theorem dX7_findRows_227 : decode cX7_findRows 227 = .ok (.iconst 2, 1) := by decide +kernel
theorem dX7_findRows_228 : decode cX7_findRows 228 = .ok (.aload_n 0, 1) := by decide +kernel
theorem dX7_findRows_229 : decode cX7_findRows 229 = .ok (.getfield 7, 3) := by decide +kernel
theorem dX7_findRows_232 : decode cX7_findRows 232 = .ok (.imul, 1) := by decide +kernel
theorem dX7_findRows_233 : decode cX7_findRows 233 = .ok (.iconst 2, 1) := by decide +kernel
theorem dX7_findRows_234 : decode cX7_findRows 234 = .ok (.iadd, 1) := by decide +kernel
theorem dX7_findRows_235 : decode cX7_findRows 235 = .ok (.putfield 88, 3) := by decide +kernel
theorem dX7_findRows_238 : decode cX7_findRows 238 = .ok (.aload_n 0, 1) := by decide +kernel
theorem dX7_findRows_239 : decode cX7_findRows 239 = .ok (.aload_n 0, 1) := by decide +kernel
theorem dX7_findRows_240 : decode cX7_findRows 240 = .ok (.getfield 88, 3) := by decide +kernel
theorem dX7_findRows_243 : decode cX7_findRows 243 = .ok (.lconst 0, 1) := by decide +kernel
theorem dX7_findRows_244 : decode cX7_findRows 244 = .ok (.lconst 0, 1) := by decide +kernel
theorem dX7_findRows_245 : decode cX7_findRows 245 = .ok (.lconst 1, 1) := by decide +kernel
theorem dX7_findRows_246 : decode cX7_findRows 246 = .ok (.lconst 0, 1) := by decide +kernel
theorem dX7_findRows_247 : decode cX7_findRows 247 = .ok (.lconst 0, 1) := by decide +kernel
theorem dX7_findRows_248 : decode cX7_findRows 248 = .ok (.invokevirtual 82, 3) := by decide +kernel
theorem dX7_findRows_251 : decode cX7_findRows 251 = .ok (.aload_n 0, 1) := by decide +kernel
theorem dX7_findRows_252 : decode cX7_findRows 252 = .ok (.dup, 1) := by decide +kernel
theorem dX7_findRows_253 : decode cX7_findRows 253 = .ok (.getfield 88, 3) := by decide +kernel
theorem dX7_findRows_256 : decode cX7_findRows 256 = .ok (.iconst 1, 1) := by decide +kernel
theorem dX7_findRows_257 : decode cX7_findRows 257 = .ok (.iadd, 1) := by decide +kernel
theorem dX7_findRows_258 : decode cX7_findRows 258 = .ok (.putfield 88, 3) := by decide +kernel
theorem dX7_findRows_261 : decode cX7_findRows 261 = .ok (.iload_n 1, 1) := by decide +kernel
theorem dX7_findRows_262 : decode cX7_findRows 262 = .ok (.ifCond .eq 26, 3) := by decide +kernel
theorem dX7_findRows_265 : decode cX7_findRows 265 = .ok (.aload_n 0, 1) := by decide +kernel
theorem dX7_findRows_266 : decode cX7_findRows 266 = .ok (.aload_n 0, 1) := by decide +kernel
theorem dX7_findRows_267 : decode cX7_findRows 267 = .ok (.getfield 88, 3) := by decide +kernel
theorem dX7_findRows_270 : decode cX7_findRows 270 = .ok (.lconst 0, 1) := by decide +kernel
theorem dX7_findRows_271 : decode cX7_findRows 271 = .ok (.lconst 0, 1) := by decide +kernel
theorem dX7_findRows_272 : decode cX7_findRows 272 = .ok (.lconst 0, 1) := by decide +kernel
theorem dX7_findRows_273 : decode cX7_findRows 273 = .ok (.lconst 1, 1) := by decide +kernel
theorem dX7_findRows_274 : decode cX7_findRows 274 = .ok (.lconst 0, 1) := by decide +kernel
theorem dX7_findRows_275 : decode cX7_findRows 275 = .ok (.invokevirtual 82, 3) := by decide +kernel
theorem dX7_findRows_278 : decode cX7_findRows 278 = .ok (.aload_n 0, 1) := by decide +kernel
theorem dX7_findRows_279 : decode cX7_findRows 279 = .ok (.dup, 1) := by decide +kernel
theorem dX7_findRows_280 : decode cX7_findRows 280 = .ok (.getfield 88, 3) := by decide +kernel
theorem dX7_findRows_283 : decode cX7_findRows 283 = .ok (.iconst 1, 1) := by decide +kernel
theorem dX7_findRows_284 : decode cX7_findRows 284 = .ok (.iadd, 1) := by decide +kernel
theorem dX7_findRows_285 : decode cX7_findRows 285 = .ok (.putfield 88, 3) := by decide +kernel
theorem dX7_findRows_288 : decode cX7_findRows 288 = .ok (.return_, 1) := by decide +kernel
theorem dX7_three_0 : decode cX7_three 0 = .ok (.aload_n 0, 1) := by decide +kernel
theorem dX7_three_1 : decode cX7_three 1 = .ok (.getfield 35, 3) := by decide +kernel
theorem dX7_three_4 : decode cX7_three 4 = .ok (.iconst 5, 1) := by decide +kernel
theorem dX7_three_5 : decode cX7_three 5 = .ok (.iload_n 2, 1) := by decide +kernel
theorem dX7_three_6 : decode cX7_three 6 = .ok (.imul, 1) := by decide +kernel
theorem dX7_three_7 : decode cX7_three 7 = .ok (.iload 5, 2) := by decide +kernel
theorem dX7_three_9 : decode cX7_three 9 = .ok (.iadd, 1) := by decide +kernel
theorem dX7_three_10 : decode cX7_three 10 = .ok (.laload, 1) := by decide +kernel
theorem dX7_three_11 : decode cX7_three 11 = .ok (.aload_n 0, 1) := by decide +kernel
theorem dX7_three_12 : decode cX7_three 12 = .ok (.getfield 35, 3) := by decide +kernel
theorem dX7_three_15 : decode cX7_three 15 = .ok (.iconst 5, 1) := by decide +kernel
theorem dX7_three_16 : decode cX7_three 16 = .ok (.iload_n 3, 1) := by decide +kernel
theorem dX7_three_17 : decode cX7_three 17 = .ok (.imul, 1) := by decide +kernel
theorem dX7_three_18 : decode cX7_three 18 = .ok (.iload 6, 2) := by decide +kernel
theorem dX7_three_20 : decode cX7_three 20 = .ok (.iadd, 1) := by decide +kernel
theorem dX7_three_21 : decode cX7_three 21 = .ok (.laload, 1) := by decide +kernel
theorem dX7_three_22 : decode cX7_three 22 = .ok (.lmul, 1) := by decide +kernel
theorem dX7_three_23 : decode cX7_three 23 = .ok (.aload_n 0, 1) := by decide +kernel
theorem dX7_three_24 : decode cX7_three 24 = .ok (.getfield 35, 3) := by decide +kernel
theorem dX7_three_27 : decode cX7_three 27 = .ok (.iconst 5, 1) := by decide +kernel
theorem dX7_three_28 : decode cX7_three 28 = .ok (.iload_n 2, 1) := by decide +kernel
theorem dX7_three_29 : decode cX7_three 29 = .ok (.imul, 1) := by decide +kernel
theorem dX7_three_30 : decode cX7_three 30 = .ok (.iload 6, 2) := by decide +kernel
theorem dX7_three_32 : decode cX7_three 32 = .ok (.iadd, 1) := by decide +kernel
theorem dX7_three_33 : decode cX7_three 33 = .ok (.laload, 1) := by decide +kernel
theorem dX7_three_34 : decode cX7_three 34 = .ok (.aload_n 0, 1) := by decide +kernel
theorem dX7_three_35 : decode cX7_three 35 = .ok (.getfield 35, 3) := by decide +kernel
theorem dX7_three_38 : decode cX7_three 38 = .ok (.iconst 5, 1) := by decide +kernel
theorem dX7_three_39 : decode cX7_three 39 = .ok (.iload_n 3, 1) := by decide +kernel
theorem dX7_three_40 : decode cX7_three 40 = .ok (.imul, 1) := by decide +kernel
theorem dX7_three_41 : decode cX7_three 41 = .ok (.iload 5, 2) := by decide +kernel
theorem dX7_three_43 : decode cX7_three 43 = .ok (.iadd, 1) := by decide +kernel
theorem dX7_three_44 : decode cX7_three 44 = .ok (.laload, 1) := by decide +kernel
theorem dX7_three_45 : decode cX7_three 45 = .ok (.lmul, 1) := by decide +kernel
theorem dX7_three_46 : decode cX7_three 46 = .ok (.lsub, 1) := by decide +kernel
theorem dX7_three_47 : decode cX7_three 47 = .ok (.lstore 7, 2) := by decide +kernel
theorem dX7_three_49 : decode cX7_three 49 = .ok (.aload_n 0, 1) := by decide +kernel
theorem dX7_three_50 : decode cX7_three 50 = .ok (.getfield 35, 3) := by decide +kernel
theorem dX7_three_53 : decode cX7_three 53 = .ok (.iconst 5, 1) := by decide +kernel
theorem dX7_three_54 : decode cX7_three 54 = .ok (.iload_n 2, 1) := by decide +kernel
theorem dX7_three_55 : decode cX7_three 55 = .ok (.imul, 1) := by decide +kernel
theorem dX7_three_56 : decode cX7_three 56 = .ok (.iload 4, 2) := by decide +kernel
theorem dX7_three_58 : decode cX7_three 58 = .ok (.iadd, 1) := by decide +kernel
theorem dX7_three_59 : decode cX7_three 59 = .ok (.laload, 1) := by decide +kernel
theorem dX7_three_60 : decode cX7_three 60 = .ok (.aload_n 0, 1) := by decide +kernel
theorem dX7_three_61 : decode cX7_three 61 = .ok (.getfield 35, 3) := by decide +kernel
theorem dX7_three_64 : decode cX7_three 64 = .ok (.iconst 5, 1) := by decide +kernel
theorem dX7_three_65 : decode cX7_three 65 = .ok (.iload_n 3, 1) := by decide +kernel
theorem dX7_three_66 : decode cX7_three 66 = .ok (.imul, 1) := by decide +kernel
theorem dX7_three_67 : decode cX7_three 67 = .ok (.iload 6, 2) := by decide +kernel
theorem dX7_three_69 : decode cX7_three 69 = .ok (.iadd, 1) := by decide +kernel
theorem dX7_three_70 : decode cX7_three 70 = .ok (.laload, 1) := by decide +kernel
theorem dX7_three_71 : decode cX7_three 71 = .ok (.lmul, 1) := by decide +kernel
theorem dX7_three_72 : decode cX7_three 72 = .ok (.aload_n 0, 1) := by decide +kernel
theorem dX7_three_73 : decode cX7_three 73 = .ok (.getfield 35, 3) := by decide +kernel
theorem dX7_three_76 : decode cX7_three 76 = .ok (.iconst 5, 1) := by decide +kernel
theorem dX7_three_77 : decode cX7_three 77 = .ok (.iload_n 2, 1) := by decide +kernel
theorem dX7_three_78 : decode cX7_three 78 = .ok (.imul, 1) := by decide +kernel
theorem dX7_three_79 : decode cX7_three 79 = .ok (.iload 6, 2) := by decide +kernel
theorem dX7_three_81 : decode cX7_three 81 = .ok (.iadd, 1) := by decide +kernel
theorem dX7_three_82 : decode cX7_three 82 = .ok (.laload, 1) := by decide +kernel
theorem dX7_three_83 : decode cX7_three 83 = .ok (.aload_n 0, 1) := by decide +kernel
theorem dX7_three_84 : decode cX7_three 84 = .ok (.getfield 35, 3) := by decide +kernel
theorem dX7_three_87 : decode cX7_three 87 = .ok (.iconst 5, 1) := by decide +kernel
theorem dX7_three_88 : decode cX7_three 88 = .ok (.iload_n 3, 1) := by decide +kernel
theorem dX7_three_89 : decode cX7_three 89 = .ok (.imul, 1) := by decide +kernel
theorem dX7_three_90 : decode cX7_three 90 = .ok (.iload 4, 2) := by decide +kernel
theorem dX7_three_92 : decode cX7_three 92 = .ok (.iadd, 1) := by decide +kernel
theorem dX7_three_93 : decode cX7_three 93 = .ok (.laload, 1) := by decide +kernel
theorem dX7_three_94 : decode cX7_three 94 = .ok (.lmul, 1) := by decide +kernel
theorem dX7_three_95 : decode cX7_three 95 = .ok (.lsub, 1) := by decide +kernel
theorem dX7_three_96 : decode cX7_three 96 = .ok (.lstore 9, 2) := by decide +kernel
theorem dX7_three_98 : decode cX7_three 98 = .ok (.aload_n 0, 1) := by decide +kernel
theorem dX7_three_99 : decode cX7_three 99 = .ok (.getfield 35, 3) := by decide +kernel
theorem dX7_three_102 : decode cX7_three 102 = .ok (.iconst 5, 1) := by decide +kernel
theorem dX7_three_103 : decode cX7_three 103 = .ok (.iload_n 2, 1) := by decide +kernel
theorem dX7_three_104 : decode cX7_three 104 = .ok (.imul, 1) := by decide +kernel
theorem dX7_three_105 : decode cX7_three 105 = .ok (.iload 4, 2) := by decide +kernel
theorem dX7_three_107 : decode cX7_three 107 = .ok (.iadd, 1) := by decide +kernel
theorem dX7_three_108 : decode cX7_three 108 = .ok (.laload, 1) := by decide +kernel
theorem dX7_three_109 : decode cX7_three 109 = .ok (.aload_n 0, 1) := by decide +kernel
theorem dX7_three_110 : decode cX7_three 110 = .ok (.getfield 35, 3) := by decide +kernel
theorem dX7_three_113 : decode cX7_three 113 = .ok (.iconst 5, 1) := by decide +kernel
theorem dX7_three_114 : decode cX7_three 114 = .ok (.iload_n 3, 1) := by decide +kernel
theorem dX7_three_115 : decode cX7_three 115 = .ok (.imul, 1) := by decide +kernel
theorem dX7_three_116 : decode cX7_three 116 = .ok (.iload 5, 2) := by decide +kernel
theorem dX7_three_118 : decode cX7_three 118 = .ok (.iadd, 1) := by decide +kernel
theorem dX7_three_119 : decode cX7_three 119 = .ok (.laload, 1) := by decide +kernel
theorem dX7_three_120 : decode cX7_three 120 = .ok (.lmul, 1) := by decide +kernel
theorem dX7_three_121 : decode cX7_three 121 = .ok (.aload_n 0, 1) := by decide +kernel
theorem dX7_three_122 : decode cX7_three 122 = .ok (.getfield 35, 3) := by decide +kernel
theorem dX7_three_125 : decode cX7_three 125 = .ok (.iconst 5, 1) := by decide +kernel
theorem dX7_three_126 : decode cX7_three 126 = .ok (.iload_n 2, 1) := by decide +kernel
theorem dX7_three_127 : decode cX7_three 127 = .ok (.imul, 1) := by decide +kernel
theorem dX7_three_128 : decode cX7_three 128 = .ok (.iload 5, 2) := by decide +kernel
theorem dX7_three_130 : decode cX7_three 130 = .ok (.iadd, 1) := by decide +kernel
theorem dX7_three_131 : decode cX7_three 131 = .ok (.laload, 1) := by decide +kernel
theorem dX7_three_132 : decode cX7_three 132 = .ok (.aload_n 0, 1) := by decide +kernel
theorem dX7_three_133 : decode cX7_three 133 = .ok (.getfield 35, 3) := by decide +kernel
theorem dX7_three_136 : decode cX7_three 136 = .ok (.iconst 5, 1) := by decide +kernel
theorem dX7_three_137 : decode cX7_three 137 = .ok (.iload_n 3, 1) := by decide +kernel
theorem dX7_three_138 : decode cX7_three 138 = .ok (.imul, 1) := by decide +kernel
theorem dX7_three_139 : decode cX7_three 139 = .ok (.iload 4, 2) := by decide +kernel
theorem dX7_three_141 : decode cX7_three 141 = .ok (.iadd, 1) := by decide +kernel
theorem dX7_three_142 : decode cX7_three 142 = .ok (.laload, 1) := by decide +kernel
theorem dX7_three_143 : decode cX7_three 143 = .ok (.lmul, 1) := by decide +kernel
theorem dX7_three_144 : decode cX7_three 144 = .ok (.lsub, 1) := by decide +kernel
theorem dX7_three_145 : decode cX7_three 145 = .ok (.lstore 11, 2) := by decide +kernel
theorem dX7_three_147 : decode cX7_three 147 = .ok (.aload_n 0, 1) := by decide +kernel
theorem dX7_three_148 : decode cX7_three 148 = .ok (.getfield 35, 3) := by decide +kernel
theorem dX7_three_151 : decode cX7_three 151 = .ok (.iconst 5, 1) := by decide +kernel
theorem dX7_three_152 : decode cX7_three 152 = .ok (.iload_n 1, 1) := by decide +kernel
theorem dX7_three_153 : decode cX7_three 153 = .ok (.imul, 1) := by decide +kernel
theorem dX7_three_154 : decode cX7_three 154 = .ok (.iload 4, 2) := by decide +kernel
theorem dX7_three_156 : decode cX7_three 156 = .ok (.iadd, 1) := by decide +kernel
theorem dX7_three_157 : decode cX7_three 157 = .ok (.laload, 1) := by decide +kernel
theorem dX7_three_158 : decode cX7_three 158 = .ok (.lload 7, 2) := by decide +kernel
theorem dX7_three_160 : decode cX7_three 160 = .ok (.lmul, 1) := by decide +kernel
theorem dX7_three_161 : decode cX7_three 161 = .ok (.aload_n 0, 1) := by decide +kernel
theorem dX7_three_162 : decode cX7_three 162 = .ok (.getfield 35, 3) := by decide +kernel
theorem dX7_three_165 : decode cX7_three 165 = .ok (.iconst 5, 1) := by decide +kernel
theorem dX7_three_166 : decode cX7_three 166 = .ok (.iload_n 1, 1) := by decide +kernel
theorem dX7_three_167 : decode cX7_three 167 = .ok (.imul, 1) := by decide +kernel
theorem dX7_three_168 : decode cX7_three 168 = .ok (.iload 5, 2) := by decide +kernel
theorem dX7_three_170 : decode cX7_three 170 = .ok (.iadd, 1) := by decide +kernel
theorem dX7_three_171 : decode cX7_three 171 = .ok (.laload, 1) := by decide +kernel
theorem dX7_three_172 : decode cX7_three 172 = .ok (.lload 9, 2) := by decide +kernel
theorem dX7_three_174 : decode cX7_three 174 = .ok (.lmul, 1) := by decide +kernel
theorem dX7_three_175 : decode cX7_three 175 = .ok (.lsub, 1) := by decide +kernel
theorem dX7_three_176 : decode cX7_three 176 = .ok (.aload_n 0, 1) := by decide +kernel
theorem dX7_three_177 : decode cX7_three 177 = .ok (.getfield 35, 3) := by decide +kernel
theorem dX7_three_180 : decode cX7_three 180 = .ok (.iconst 5, 1) := by decide +kernel
theorem dX7_three_181 : decode cX7_three 181 = .ok (.iload_n 1, 1) := by decide +kernel
theorem dX7_three_182 : decode cX7_three 182 = .ok (.imul, 1) := by decide +kernel
theorem dX7_three_183 : decode cX7_three 183 = .ok (.iload 6, 2) := by decide +kernel
theorem dX7_three_185 : decode cX7_three 185 = .ok (.iadd, 1) := by decide +kernel
theorem dX7_three_186 : decode cX7_three 186 = .ok (.laload, 1) := by decide +kernel
theorem dX7_three_187 : decode cX7_three 187 = .ok (.lload 11, 2) := by decide +kernel
theorem dX7_three_189 : decode cX7_three 189 = .ok (.lmul, 1) := by decide +kernel
theorem dX7_three_190 : decode cX7_three 190 = .ok (.ladd, 1) := by decide +kernel
theorem dX7_three_191 : decode cX7_three 191 = .ok (.lreturn, 1) := by decide +kernel
theorem dX7_keepsAll_0 : decode cX7_keepsAll 0 = .ok (.iconst 0, 1) := by decide +kernel
theorem dX7_keepsAll_1 : decode cX7_keepsAll 1 = .ok (.istore_n 1, 1) := by decide +kernel
theorem dX7_keepsAll_2 : decode cX7_keepsAll 2 = .ok (.iload_n 1, 1) := by decide +kernel
theorem dX7_keepsAll_3 : decode cX7_keepsAll 3 = .ok (.aload_n 0, 1) := by decide +kernel
theorem dX7_keepsAll_4 : decode cX7_keepsAll 4 = .ok (.getfield 88, 3) := by decide +kernel
theorem dX7_keepsAll_7 : decode cX7_keepsAll 7 = .ok (.if_icmp .ge 101, 3) := by decide +kernel
theorem dX7_keepsAll_10 : decode cX7_keepsAll 10 = .ok (.aload_n 0, 1) := by decide +kernel
theorem dX7_keepsAll_11 : decode cX7_keepsAll 11 = .ok (.getfield 35, 3) := by decide +kernel
theorem dX7_keepsAll_14 : decode cX7_keepsAll 14 = .ok (.iconst 5, 1) := by decide +kernel
theorem dX7_keepsAll_15 : decode cX7_keepsAll 15 = .ok (.iload_n 1, 1) := by decide +kernel
theorem dX7_keepsAll_16 : decode cX7_keepsAll 16 = .ok (.imul, 1) := by decide +kernel
theorem dX7_keepsAll_17 : decode cX7_keepsAll 17 = .ok (.laload, 1) := by decide +kernel
theorem dX7_keepsAll_18 : decode cX7_keepsAll 18 = .ok (.aload_n 0, 1) := by decide +kernel
theorem dX7_keepsAll_19 : decode cX7_keepsAll 19 = .ok (.getfield 39, 3) := by decide +kernel
theorem dX7_keepsAll_22 : decode cX7_keepsAll 22 = .ok (.iconst 0, 1) := by decide +kernel
theorem dX7_keepsAll_23 : decode cX7_keepsAll 23 = .ok (.laload, 1) := by decide +kernel
theorem dX7_keepsAll_24 : decode cX7_keepsAll 24 = .ok (.lmul, 1) := by decide +kernel
theorem dX7_keepsAll_25 : decode cX7_keepsAll 25 = .ok (.aload_n 0, 1) := by decide +kernel
theorem dX7_keepsAll_26 : decode cX7_keepsAll 26 = .ok (.getfield 35, 3) := by decide +kernel
theorem dX7_keepsAll_29 : decode cX7_keepsAll 29 = .ok (.iconst 5, 1) := by decide +kernel
theorem dX7_keepsAll_30 : decode cX7_keepsAll 30 = .ok (.iload_n 1, 1) := by decide +kernel
theorem dX7_keepsAll_31 : decode cX7_keepsAll 31 = .ok (.imul, 1) := by decide +kernel
theorem dX7_keepsAll_32 : decode cX7_keepsAll 32 = .ok (.iconst 1, 1) := by decide +kernel
theorem dX7_keepsAll_33 : decode cX7_keepsAll 33 = .ok (.iadd, 1) := by decide +kernel
theorem dX7_keepsAll_34 : decode cX7_keepsAll 34 = .ok (.laload, 1) := by decide +kernel
theorem dX7_keepsAll_35 : decode cX7_keepsAll 35 = .ok (.aload_n 0, 1) := by decide +kernel
theorem dX7_keepsAll_36 : decode cX7_keepsAll 36 = .ok (.getfield 39, 3) := by decide +kernel
theorem dX7_keepsAll_39 : decode cX7_keepsAll 39 = .ok (.iconst 1, 1) := by decide +kernel
theorem dX7_keepsAll_40 : decode cX7_keepsAll 40 = .ok (.laload, 1) := by decide +kernel
theorem dX7_keepsAll_41 : decode cX7_keepsAll 41 = .ok (.lmul, 1) := by decide +kernel
theorem dX7_keepsAll_42 : decode cX7_keepsAll 42 = .ok (.ladd, 1) := by decide +kernel
theorem dX7_keepsAll_43 : decode cX7_keepsAll 43 = .ok (.aload_n 0, 1) := by decide +kernel
theorem dX7_keepsAll_44 : decode cX7_keepsAll 44 = .ok (.getfield 35, 3) := by decide +kernel
theorem dX7_keepsAll_47 : decode cX7_keepsAll 47 = .ok (.iconst 5, 1) := by decide +kernel
theorem dX7_keepsAll_48 : decode cX7_keepsAll 48 = .ok (.iload_n 1, 1) := by decide +kernel
theorem dX7_keepsAll_49 : decode cX7_keepsAll 49 = .ok (.imul, 1) := by decide +kernel
theorem dX7_keepsAll_50 : decode cX7_keepsAll 50 = .ok (.iconst 2, 1) := by decide +kernel
theorem dX7_keepsAll_51 : decode cX7_keepsAll 51 = .ok (.iadd, 1) := by decide +kernel
theorem dX7_keepsAll_52 : decode cX7_keepsAll 52 = .ok (.laload, 1) := by decide +kernel
theorem dX7_keepsAll_53 : decode cX7_keepsAll 53 = .ok (.aload_n 0, 1) := by decide +kernel
theorem dX7_keepsAll_54 : decode cX7_keepsAll 54 = .ok (.getfield 39, 3) := by decide +kernel
theorem dX7_keepsAll_57 : decode cX7_keepsAll 57 = .ok (.iconst 2, 1) := by decide +kernel
theorem dX7_keepsAll_58 : decode cX7_keepsAll 58 = .ok (.laload, 1) := by decide +kernel
theorem dX7_keepsAll_59 : decode cX7_keepsAll 59 = .ok (.lmul, 1) := by decide +kernel
theorem dX7_keepsAll_60 : decode cX7_keepsAll 60 = .ok (.ladd, 1) := by decide +kernel
theorem dX7_keepsAll_61 : decode cX7_keepsAll 61 = .ok (.aload_n 0, 1) := by decide +kernel
theorem dX7_keepsAll_62 : decode cX7_keepsAll 62 = .ok (.getfield 35, 3) := by decide +kernel
theorem dX7_keepsAll_65 : decode cX7_keepsAll 65 = .ok (.iconst 5, 1) := by decide +kernel
theorem dX7_keepsAll_66 : decode cX7_keepsAll 66 = .ok (.iload_n 1, 1) := by decide +kernel
theorem dX7_keepsAll_67 : decode cX7_keepsAll 67 = .ok (.imul, 1) := by decide +kernel
theorem dX7_keepsAll_68 : decode cX7_keepsAll 68 = .ok (.iconst 3, 1) := by decide +kernel
theorem dX7_keepsAll_69 : decode cX7_keepsAll 69 = .ok (.iadd, 1) := by decide +kernel
theorem dX7_keepsAll_70 : decode cX7_keepsAll 70 = .ok (.laload, 1) := by decide +kernel
theorem dX7_keepsAll_71 : decode cX7_keepsAll 71 = .ok (.aload_n 0, 1) := by decide +kernel
theorem dX7_keepsAll_72 : decode cX7_keepsAll 72 = .ok (.getfield 39, 3) := by decide +kernel
theorem dX7_keepsAll_75 : decode cX7_keepsAll 75 = .ok (.iconst 3, 1) := by decide +kernel
theorem dX7_keepsAll_76 : decode cX7_keepsAll 76 = .ok (.laload, 1) := by decide +kernel
theorem dX7_keepsAll_77 : decode cX7_keepsAll 77 = .ok (.lmul, 1) := by decide +kernel
theorem dX7_keepsAll_78 : decode cX7_keepsAll 78 = .ok (.ladd, 1) := by decide +kernel
theorem dX7_keepsAll_79 : decode cX7_keepsAll 79 = .ok (.lstore_n 2, 1) := by decide +kernel
theorem dX7_keepsAll_80 : decode cX7_keepsAll 80 = .ok (.lload_n 2, 1) := by decide +kernel
theorem dX7_keepsAll_81 : decode cX7_keepsAll 81 = .ok (.aload_n 0, 1) := by decide +kernel
theorem dX7_keepsAll_82 : decode cX7_keepsAll 82 = .ok (.getfield 35, 3) := by decide +kernel
theorem dX7_keepsAll_85 : decode cX7_keepsAll 85 = .ok (.iconst 5, 1) := by decide +kernel
theorem dX7_keepsAll_86 : decode cX7_keepsAll 86 = .ok (.iload_n 1, 1) := by decide +kernel
theorem dX7_keepsAll_87 : decode cX7_keepsAll 87 = .ok (.imul, 1) := by decide +kernel
theorem dX7_keepsAll_88 : decode cX7_keepsAll 88 = .ok (.iconst 4, 1) := by decide +kernel
theorem dX7_keepsAll_89 : decode cX7_keepsAll 89 = .ok (.iadd, 1) := by decide +kernel
theorem dX7_keepsAll_90 : decode cX7_keepsAll 90 = .ok (.laload, 1) := by decide +kernel
theorem dX7_keepsAll_91 : decode cX7_keepsAll 91 = .ok (.aload_n 0, 1) := by decide +kernel
theorem dX7_keepsAll_92 : decode cX7_keepsAll 92 = .ok (.getfield 91, 3) := by decide +kernel
theorem dX7_keepsAll_95 : decode cX7_keepsAll 95 = .ok (.lmul, 1) := by decide +kernel
theorem dX7_keepsAll_96 : decode cX7_keepsAll 96 = .ok (.lcmp, 1) := by decide +kernel
theorem dX7_keepsAll_97 : decode cX7_keepsAll 97 = .ok (.ifCond .ge 5, 3) := by decide +kernel
theorem dX7_keepsAll_100 : decode cX7_keepsAll 100 = .ok (.iconst 0, 1) := by decide +kernel
theorem dX7_keepsAll_101 : decode cX7_keepsAll 101 = .ok (.ireturn, 1) := by decide +kernel
theorem dX7_keepsAll_102 : decode cX7_keepsAll 102 = .ok (.iinc 1 1, 3) := by decide +kernel
theorem dX7_keepsAll_105 : decode cX7_keepsAll 105 = .ok (.goto (-103), 3) := by decide +kernel
theorem dX7_keepsAll_108 : decode cX7_keepsAll 108 = .ok (.iconst 1, 1) := by decide +kernel
theorem dX7_keepsAll_109 : decode cX7_keepsAll 109 = .ok (.ireturn, 1) := by decide +kernel
theorem dX7_turnSpot_0 : decode cX7_turnSpot 0 = .ok (.aload_n 0, 1) := by decide +kernel
theorem dX7_turnSpot_1 : decode cX7_turnSpot 1 = .ok (.getfield 91, 3) := by decide +kernel
theorem dX7_turnSpot_4 : decode cX7_turnSpot 4 = .ok (.lconst 0, 1) := by decide +kernel
theorem dX7_turnSpot_5 : decode cX7_turnSpot 5 = .ok (.lcmp, 1) := by decide +kernel
theorem dX7_turnSpot_6 : decode cX7_turnSpot 6 = .ok (.ifCond .ge 38, 3) := by decide +kernel
theorem dX7_turnSpot_9 : decode cX7_turnSpot 9 = .ok (.aload_n 0, 1) := by decide +kernel
theorem dX7_turnSpot_10 : decode cX7_turnSpot 10 = .ok (.aload_n 0, 1) := by decide +kernel
theorem dX7_turnSpot_11 : decode cX7_turnSpot 11 = .ok (.getfield 91, 3) := by decide +kernel
theorem dX7_turnSpot_14 : decode cX7_turnSpot 14 = .ok (.lneg, 1) := by decide +kernel
theorem dX7_turnSpot_15 : decode cX7_turnSpot 15 = .ok (.putfield 91, 3) := by decide +kernel
theorem dX7_turnSpot_18 : decode cX7_turnSpot 18 = .ok (.iconst 0, 1) := by decide +kernel
theorem dX7_turnSpot_19 : decode cX7_turnSpot 19 = .ok (.istore_n 1, 1) := by decide +kernel
theorem dX7_turnSpot_20 : decode cX7_turnSpot 20 = .ok (.iload_n 1, 1) := by decide +kernel
theorem dX7_turnSpot_21 : decode cX7_turnSpot 21 = .ok (.iconst 4, 1) := by decide +kernel
theorem dX7_turnSpot_22 : decode cX7_turnSpot 22 = .ok (.if_icmp .ge 22, 3) := by decide +kernel
theorem dX7_turnSpot_25 : decode cX7_turnSpot 25 = .ok (.aload_n 0, 1) := by decide +kernel
theorem dX7_turnSpot_26 : decode cX7_turnSpot 26 = .ok (.getfield 39, 3) := by decide +kernel
theorem dX7_turnSpot_29 : decode cX7_turnSpot 29 = .ok (.iload_n 1, 1) := by decide +kernel
theorem dX7_turnSpot_30 : decode cX7_turnSpot 30 = .ok (.aload_n 0, 1) := by decide +kernel
theorem dX7_turnSpot_31 : decode cX7_turnSpot 31 = .ok (.getfield 39, 3) := by decide +kernel
theorem dX7_turnSpot_34 : decode cX7_turnSpot 34 = .ok (.iload_n 1, 1) := by decide +kernel
theorem dX7_turnSpot_35 : decode cX7_turnSpot 35 = .ok (.laload, 1) := by decide +kernel
theorem dX7_turnSpot_36 : decode cX7_turnSpot 36 = .ok (.lneg, 1) := by decide +kernel
theorem dX7_turnSpot_37 : decode cX7_turnSpot 37 = .ok (.lastore, 1) := by decide +kernel
theorem dX7_turnSpot_38 : decode cX7_turnSpot 38 = .ok (.iinc 1 1, 3) := by decide +kernel
theorem dX7_turnSpot_41 : decode cX7_turnSpot 41 = .ok (.goto (-21), 3) := by decide +kernel
theorem dX7_turnSpot_44 : decode cX7_turnSpot 44 = .ok (.return_, 1) := by decide +kernel
theorem dX7_meetThree_0 : decode cX7_meetThree 0 = .ok (.aload_n 0, 1) := by decide +kernel
theorem dX7_meetThree_1 : decode cX7_meetThree 1 = .ok (.aload_n 0, 1) := by decide +kernel
theorem dX7_meetThree_2 : decode cX7_meetThree 2 = .ok (.iload_n 1, 1) := by decide +kernel
theorem dX7_meetThree_3 : decode cX7_meetThree 3 = .ok (.iload_n 2, 1) := by decide +kernel
theorem dX7_meetThree_4 : decode cX7_meetThree 4 = .ok (.iload_n 3, 1) := by decide +kernel
theorem dX7_meetThree_5 : decode cX7_meetThree 5 = .ok (.iconst 0, 1) := by decide +kernel
theorem dX7_meetThree_6 : decode cX7_meetThree 6 = .ok (.iconst 1, 1) := by decide +kernel
theorem dX7_meetThree_7 : decode cX7_meetThree 7 = .ok (.iconst 2, 1) := by decide +kernel
theorem dX7_meetThree_8 : decode cX7_meetThree 8 = .ok (.invokevirtual 95, 3) := by decide +kernel
theorem dX7_meetThree_11 : decode cX7_meetThree 11 = .ok (.putfield 91, 3) := by decide +kernel
theorem dX7_meetThree_14 : decode cX7_meetThree 14 = .ok (.aload_n 0, 1) := by decide +kernel
theorem dX7_meetThree_15 : decode cX7_meetThree 15 = .ok (.getfield 91, 3) := by decide +kernel
theorem dX7_meetThree_18 : decode cX7_meetThree 18 = .ok (.lconst 0, 1) := by decide +kernel
theorem dX7_meetThree_19 : decode cX7_meetThree 19 = .ok (.lcmp, 1) := by decide +kernel
theorem dX7_meetThree_20 : decode cX7_meetThree 20 = .ok (.ifCond .ne 5, 3) := by decide +kernel
theorem dX7_meetThree_23 : decode cX7_meetThree 23 = .ok (.iconst 0, 1) := by decide +kernel
theorem dX7_meetThree_24 : decode cX7_meetThree 24 = .ok (.ireturn, 1) := by decide +kernel
theorem dX7_meetThree_25 : decode cX7_meetThree 25 = .ok (.aload_n 0, 1) := by decide +kernel
theorem dX7_meetThree_26 : decode cX7_meetThree 26 = .ok (.getfield 39, 3) := by decide +kernel
theorem dX7_meetThree_29 : decode cX7_meetThree 29 = .ok (.iconst 0, 1) := by decide +kernel
theorem dX7_meetThree_30 : decode cX7_meetThree 30 = .ok (.aload_n 0, 1) := by decide +kernel
theorem dX7_meetThree_31 : decode cX7_meetThree 31 = .ok (.iload_n 1, 1) := by decide +kernel
theorem dX7_meetThree_32 : decode cX7_meetThree 32 = .ok (.iload_n 2, 1) := by decide +kernel
theorem dX7_meetThree_33 : decode cX7_meetThree 33 = .ok (.iload_n 3, 1) := by decide +kernel
theorem dX7_meetThree_34 : decode cX7_meetThree 34 = .ok (.iconst 4, 1) := by decide +kernel
theorem dX7_meetThree_35 : decode cX7_meetThree 35 = .ok (.iconst 1, 1) := by decide +kernel
theorem dX7_meetThree_36 : decode cX7_meetThree 36 = .ok (.iconst 2, 1) := by decide +kernel
theorem dX7_meetThree_37 : decode cX7_meetThree 37 = .ok (.invokevirtual 95, 3) := by decide +kernel
theorem dX7_meetThree_40 : decode cX7_meetThree 40 = .ok (.lastore, 1) := by decide +kernel
theorem dX7_meetThree_41 : decode cX7_meetThree 41 = .ok (.aload_n 0, 1) := by decide +kernel
theorem dX7_meetThree_42 : decode cX7_meetThree 42 = .ok (.getfield 39, 3) := by decide +kernel
theorem dX7_meetThree_45 : decode cX7_meetThree 45 = .ok (.iconst 1, 1) := by decide +kernel
theorem dX7_meetThree_46 : decode cX7_meetThree 46 = .ok (.aload_n 0, 1) := by decide +kernel
theorem dX7_meetThree_47 : decode cX7_meetThree 47 = .ok (.iload_n 1, 1) := by decide +kernel
theorem dX7_meetThree_48 : decode cX7_meetThree 48 = .ok (.iload_n 2, 1) := by decide +kernel
theorem dX7_meetThree_49 : decode cX7_meetThree 49 = .ok (.iload_n 3, 1) := by decide +kernel
theorem dX7_meetThree_50 : decode cX7_meetThree 50 = .ok (.iconst 0, 1) := by decide +kernel
theorem dX7_meetThree_51 : decode cX7_meetThree 51 = .ok (.iconst 4, 1) := by decide +kernel
theorem dX7_meetThree_52 : decode cX7_meetThree 52 = .ok (.iconst 2, 1) := by decide +kernel
theorem dX7_meetThree_53 : decode cX7_meetThree 53 = .ok (.invokevirtual 95, 3) := by decide +kernel
theorem dX7_meetThree_56 : decode cX7_meetThree 56 = .ok (.lastore, 1) := by decide +kernel
theorem dX7_meetThree_57 : decode cX7_meetThree 57 = .ok (.aload_n 0, 1) := by decide +kernel
end
section
theorem dX7_meetThree_58 : decode cX7_meetThree 58 = .ok (.getfield 39, 3) := by decide +kernel
theorem dX7_meetThree_61 : decode cX7_meetThree 61 = .ok (.iconst 2, 1) := by decide +kernel
theorem dX7_meetThree_62 : decode cX7_meetThree 62 = .ok (.aload_n 0, 1) := by decide +kernel
theorem dX7_meetThree_63 : decode cX7_meetThree 63 = .ok (.iload_n 1, 1) := by decide +kernel
theorem dX7_meetThree_64 : decode cX7_meetThree 64 = .ok (.iload_n 2, 1) := by decide +kernel
theorem dX7_meetThree_65 : decode cX7_meetThree 65 = .ok (.iload_n 3, 1) := by decide +kernel
theorem dX7_meetThree_66 : decode cX7_meetThree 66 = .ok (.iconst 0, 1) := by decide +kernel
theorem dX7_meetThree_67 : decode cX7_meetThree 67 = .ok (.iconst 1, 1) := by decide +kernel
theorem dX7_meetThree_68 : decode cX7_meetThree 68 = .ok (.iconst 4, 1) := by decide +kernel
theorem dX7_meetThree_69 : decode cX7_meetThree 69 = .ok (.invokevirtual 95, 3) := by decide +kernel
theorem dX7_meetThree_72 : decode cX7_meetThree 72 = .ok (.lastore, 1) := by decide +kernel
theorem dX7_meetThree_73 : decode cX7_meetThree 73 = .ok (.aload_n 0, 1) := by decide +kernel
theorem dX7_meetThree_74 : decode cX7_meetThree 74 = .ok (.getfield 39, 3) := by decide +kernel
theorem dX7_meetThree_77 : decode cX7_meetThree 77 = .ok (.iconst 3, 1) := by decide +kernel
theorem dX7_meetThree_78 : decode cX7_meetThree 78 = .ok (.lconst 0, 1) := by decide +kernel
theorem dX7_meetThree_79 : decode cX7_meetThree 79 = .ok (.lastore, 1) := by decide +kernel
theorem dX7_meetThree_80 : decode cX7_meetThree 80 = .ok (.aload_n 0, 1) := by decide +kernel
theorem dX7_meetThree_81 : decode cX7_meetThree 81 = .ok (.invokevirtual 99, 3) := by decide +kernel
theorem dX7_meetThree_84 : decode cX7_meetThree 84 = .ok (.aload_n 0, 1) := by decide +kernel
theorem dX7_meetThree_85 : decode cX7_meetThree 85 = .ok (.invokevirtual 102, 3) := by decide +kernel
theorem dX7_meetThree_88 : decode cX7_meetThree 88 = .ok (.ireturn, 1) := by decide +kernel
theorem dX7_down_0 : decode cX7_down 0 = .ok (.lload_n 0, 1) := by decide +kernel
theorem dX7_down_1 : decode cX7_down 1 = .ok (.lload_n 2, 1) := by decide +kernel
theorem dX7_down_2 : decode cX7_down 2 = .ok (.ldiv, 1) := by decide +kernel
theorem dX7_down_3 : decode cX7_down 3 = .ok (.lstore 4, 2) := by decide +kernel
theorem dX7_down_5 : decode cX7_down 5 = .ok (.lload_n 0, 1) := by decide +kernel
theorem dX7_down_6 : decode cX7_down 6 = .ok (.lload_n 2, 1) := by decide +kernel
theorem dX7_down_7 : decode cX7_down 7 = .ok (.lrem, 1) := by decide +kernel
theorem dX7_down_8 : decode cX7_down 8 = .ok (.lconst 0, 1) := by decide +kernel
theorem dX7_down_9 : decode cX7_down 9 = .ok (.lcmp, 1) := by decide +kernel
theorem dX7_down_10 : decode cX7_down 10 = .ok (.ifCond .eq 16, 3) := by decide +kernel
theorem dX7_down_13 : decode cX7_down 13 = .ok (.lload_n 0, 1) := by decide +kernel
theorem dX7_down_14 : decode cX7_down 14 = .ok (.lconst 0, 1) := by decide +kernel
theorem dX7_down_15 : decode cX7_down 15 = .ok (.lcmp, 1) := by decide +kernel
theorem dX7_down_16 : decode cX7_down 16 = .ok (.ifCond .ge 10, 3) := by decide +kernel
theorem dX7_down_19 : decode cX7_down 19 = .ok (.lload 4, 2) := by decide +kernel
theorem dX7_down_21 : decode cX7_down 21 = .ok (.lconst 1, 1) := by decide +kernel
theorem dX7_down_22 : decode cX7_down 22 = .ok (.lsub, 1) := by decide +kernel
theorem dX7_down_23 : decode cX7_down 23 = .ok (.goto 5, 3) := by decide +kernel
theorem dX7_down_26 : decode cX7_down 26 = .ok (.lload 4, 2) := by decide +kernel
theorem dX7_down_28 : decode cX7_down 28 = .ok (.lreturn, 1) := by decide +kernel
theorem dX7_compare_0 : decode cX7_compare 0 = .ok (.lload_n 0, 1) := by decide +kernel
theorem dX7_compare_1 : decode cX7_compare 1 = .ok (.lstore 8, 2) := by decide +kernel
theorem dX7_compare_3 : decode cX7_compare 3 = .ok (.lload_n 2, 1) := by decide +kernel
theorem dX7_compare_4 : decode cX7_compare 4 = .ok (.lstore 10, 2) := by decide +kernel
theorem dX7_compare_6 : decode cX7_compare 6 = .ok (.lload 4, 2) := by decide +kernel
theorem dX7_compare_8 : decode cX7_compare 8 = .ok (.lstore 12, 2) := by decide +kernel
theorem dX7_compare_10 : decode cX7_compare 10 = .ok (.lload 6, 2) := by decide +kernel
theorem dX7_compare_12 : decode cX7_compare 12 = .ok (.lstore 14, 2) := by decide +kernel
theorem dX7_compare_14 : decode cX7_compare 14 = .ok (.iconst 1, 1) := by decide +kernel
theorem dX7_compare_15 : decode cX7_compare 15 = .ok (.istore 16, 2) := by decide +kernel
theorem dX7_compare_17 : decode cX7_compare 17 = .ok (.lload 8, 2) := by decide +kernel
theorem dX7_compare_19 : decode cX7_compare 19 = .ok (.lload 10, 2) := by decide +kernel
theorem dX7_compare_21 : decode cX7_compare 21 = .ok (.invokestatic 106, 3) := by decide +kernel
theorem dX7_compare_24 : decode cX7_compare 24 = .ok (.lstore 17, 2) := by decide +kernel
theorem dX7_compare_26 : decode cX7_compare 26 = .ok (.lload 12, 2) := by decide +kernel
theorem dX7_compare_28 : decode cX7_compare 28 = .ok (.lload 14, 2) := by decide +kernel
theorem dX7_compare_30 : decode cX7_compare 30 = .ok (.invokestatic 106, 3) := by decide +kernel
theorem dX7_compare_33 : decode cX7_compare 33 = .ok (.lstore 19, 2) := by decide +kernel
theorem dX7_compare_35 : decode cX7_compare 35 = .ok (.lload 17, 2) := by decide +kernel
theorem dX7_compare_37 : decode cX7_compare 37 = .ok (.lload 19, 2) := by decide +kernel
theorem dX7_compare_39 : decode cX7_compare 39 = .ok (.lcmp, 1) := by decide +kernel
theorem dX7_compare_40 : decode cX7_compare 40 = .ok (.ifCond .eq 20, 3) := by decide +kernel
theorem dX7_compare_43 : decode cX7_compare 43 = .ok (.lload 17, 2) := by decide +kernel
theorem dX7_compare_45 : decode cX7_compare 45 = .ok (.lload 19, 2) := by decide +kernel
theorem dX7_compare_47 : decode cX7_compare 47 = .ok (.lcmp, 1) := by decide +kernel
theorem dX7_compare_48 : decode cX7_compare 48 = .ok (.ifCond .ge 9, 3) := by decide +kernel
theorem dX7_compare_51 : decode cX7_compare 51 = .ok (.iload 16, 2) := by decide +kernel
theorem dX7_compare_53 : decode cX7_compare 53 = .ok (.ineg, 1) := by decide +kernel
theorem dX7_compare_54 : decode cX7_compare 54 = .ok (.goto 5, 3) := by decide +kernel
theorem dX7_compare_57 : decode cX7_compare 57 = .ok (.iload 16, 2) := by decide +kernel
theorem dX7_compare_59 : decode cX7_compare 59 = .ok (.ireturn, 1) := by decide +kernel
theorem dX7_compare_60 : decode cX7_compare 60 = .ok (.lload 8, 2) := by decide +kernel
theorem dX7_compare_62 : decode cX7_compare 62 = .ok (.lload 17, 2) := by decide +kernel
theorem dX7_compare_64 : decode cX7_compare 64 = .ok (.lload 10, 2) := by decide +kernel
theorem dX7_compare_66 : decode cX7_compare 66 = .ok (.lmul, 1) := by decide +kernel
theorem dX7_compare_67 : decode cX7_compare 67 = .ok (.lsub, 1) := by decide +kernel
theorem dX7_compare_68 : decode cX7_compare 68 = .ok (.lstore 21, 2) := by decide +kernel
theorem dX7_compare_70 : decode cX7_compare 70 = .ok (.lload 12, 2) := by decide +kernel
theorem dX7_compare_72 : decode cX7_compare 72 = .ok (.lload 19, 2) := by decide +kernel
theorem dX7_compare_74 : decode cX7_compare 74 = .ok (.lload 14, 2) := by decide +kernel
theorem dX7_compare_76 : decode cX7_compare 76 = .ok (.lmul, 1) := by decide +kernel
theorem dX7_compare_77 : decode cX7_compare 77 = .ok (.lsub, 1) := by decide +kernel
theorem dX7_compare_78 : decode cX7_compare 78 = .ok (.lstore 23, 2) := by decide +kernel
theorem dX7_compare_80 : decode cX7_compare 80 = .ok (.lload 21, 2) := by decide +kernel
theorem dX7_compare_82 : decode cX7_compare 82 = .ok (.lconst 0, 1) := by decide +kernel
theorem dX7_compare_83 : decode cX7_compare 83 = .ok (.lcmp, 1) := by decide +kernel
theorem dX7_compare_84 : decode cX7_compare 84 = .ok (.ifCond .eq 10, 3) := by decide +kernel
theorem dX7_compare_87 : decode cX7_compare 87 = .ok (.lload 23, 2) := by decide +kernel
theorem dX7_compare_89 : decode cX7_compare 89 = .ok (.lconst 0, 1) := by decide +kernel
theorem dX7_compare_90 : decode cX7_compare 90 = .ok (.lcmp, 1) := by decide +kernel
theorem dX7_compare_91 : decode cX7_compare 91 = .ok (.ifCond .ne 31, 3) := by decide +kernel
theorem dX7_compare_94 : decode cX7_compare 94 = .ok (.lload 21, 2) := by decide +kernel
theorem dX7_compare_96 : decode cX7_compare 96 = .ok (.lload 23, 2) := by decide +kernel
theorem dX7_compare_98 : decode cX7_compare 98 = .ok (.lcmp, 1) := by decide +kernel
theorem dX7_compare_99 : decode cX7_compare 99 = .ok (.ifCond .ne 7, 3) := by decide +kernel
theorem dX7_compare_102 : decode cX7_compare 102 = .ok (.iconst 0, 1) := by decide +kernel
theorem dX7_compare_103 : decode cX7_compare 103 = .ok (.goto 18, 3) := by decide +kernel
theorem dX7_compare_106 : decode cX7_compare 106 = .ok (.lload 21, 2) := by decide +kernel
theorem dX7_compare_108 : decode cX7_compare 108 = .ok (.lconst 0, 1) := by decide +kernel
theorem dX7_compare_109 : decode cX7_compare 109 = .ok (.lcmp, 1) := by decide +kernel
theorem dX7_compare_110 : decode cX7_compare 110 = .ok (.ifCond .ne 9, 3) := by decide +kernel
theorem dX7_compare_113 : decode cX7_compare 113 = .ok (.iload 16, 2) := by decide +kernel
theorem dX7_compare_115 : decode cX7_compare 115 = .ok (.ineg, 1) := by decide +kernel
theorem dX7_compare_116 : decode cX7_compare 116 = .ok (.goto 5, 3) := by decide +kernel
theorem dX7_compare_119 : decode cX7_compare 119 = .ok (.iload 16, 2) := by decide +kernel
theorem dX7_compare_121 : decode cX7_compare 121 = .ok (.ireturn, 1) := by decide +kernel
theorem dX7_compare_122 : decode cX7_compare 122 = .ok (.lload 10, 2) := by decide +kernel
theorem dX7_compare_124 : decode cX7_compare 124 = .ok (.lstore 8, 2) := by decide +kernel
theorem dX7_compare_126 : decode cX7_compare 126 = .ok (.lload 21, 2) := by decide +kernel
theorem dX7_compare_128 : decode cX7_compare 128 = .ok (.lstore 10, 2) := by decide +kernel
theorem dX7_compare_130 : decode cX7_compare 130 = .ok (.lload 14, 2) := by decide +kernel
theorem dX7_compare_132 : decode cX7_compare 132 = .ok (.lstore 12, 2) := by decide +kernel
theorem dX7_compare_134 : decode cX7_compare 134 = .ok (.lload 23, 2) := by decide +kernel
theorem dX7_compare_136 : decode cX7_compare 136 = .ok (.lstore 14, 2) := by decide +kernel
theorem dX7_compare_138 : decode cX7_compare 138 = .ok (.iload 16, 2) := by decide +kernel
theorem dX7_compare_140 : decode cX7_compare 140 = .ok (.ineg, 1) := by decide +kernel
theorem dX7_compare_141 : decode cX7_compare 141 = .ok (.istore 16, 2) := by decide +kernel
theorem dX7_compare_143 : decode cX7_compare 143 = .ok (.goto (-126), 3) := by decide +kernel
theorem dX7_findLines_0 : decode cX7_findLines 0 = .ok (.aload_n 0, 1) := by decide +kernel
theorem dX7_findLines_1 : decode cX7_findLines 1 = .ok (.iconst 0, 1) := by decide +kernel
theorem dX7_findLines_2 : decode cX7_findLines 2 = .ok (.invokevirtual 110, 3) := by decide +kernel
theorem dX7_findLines_5 : decode cX7_findLines 5 = .ok (.aload_n 0, 1) := by decide +kernel
theorem dX7_findLines_6 : decode cX7_findLines 6 = .ok (.iconst 0, 1) := by decide +kernel
theorem dX7_findLines_7 : decode cX7_findLines 7 = .ok (.putfield 114, 3) := by decide +kernel
theorem dX7_findLines_10 : decode cX7_findLines 10 = .ok (.iconst 0, 1) := by decide +kernel
theorem dX7_findLines_11 : decode cX7_findLines 11 = .ok (.istore_n 1, 1) := by decide +kernel
theorem dX7_findLines_12 : decode cX7_findLines 12 = .ok (.iload_n 1, 1) := by decide +kernel
theorem dX7_findLines_13 : decode cX7_findLines 13 = .ok (.aload_n 0, 1) := by decide +kernel
theorem dX7_findLines_14 : decode cX7_findLines 14 = .ok (.getfield 88, 3) := by decide +kernel
theorem dX7_findLines_17 : decode cX7_findLines 17 = .ok (.if_icmp .ge 59, 3) := by decide +kernel
theorem dX7_findLines_20 : decode cX7_findLines 20 = .ok (.iload_n 1, 1) := by decide +kernel
theorem dX7_findLines_21 : decode cX7_findLines 21 = .ok (.iconst 1, 1) := by decide +kernel
theorem dX7_findLines_22 : decode cX7_findLines 22 = .ok (.iadd, 1) := by decide +kernel
theorem dX7_findLines_23 : decode cX7_findLines 23 = .ok (.istore_n 2, 1) := by decide +kernel
theorem dX7_findLines_24 : decode cX7_findLines 24 = .ok (.iload_n 2, 1) := by decide +kernel
theorem dX7_findLines_25 : decode cX7_findLines 25 = .ok (.aload_n 0, 1) := by decide +kernel
theorem dX7_findLines_26 : decode cX7_findLines 26 = .ok (.getfield 88, 3) := by decide +kernel
theorem dX7_findLines_29 : decode cX7_findLines 29 = .ok (.if_icmp .ge 41, 3) := by decide +kernel
theorem dX7_findLines_32 : decode cX7_findLines 32 = .ok (.iload_n 2, 1) := by decide +kernel
theorem dX7_findLines_33 : decode cX7_findLines 33 = .ok (.iconst 1, 1) := by decide +kernel
theorem dX7_findLines_34 : decode cX7_findLines 34 = .ok (.iadd, 1) := by decide +kernel
theorem dX7_findLines_35 : decode cX7_findLines 35 = .ok (.istore_n 3, 1) := by decide +kernel
theorem dX7_findLines_36 : decode cX7_findLines 36 = .ok (.iload_n 3, 1) := by decide +kernel
theorem dX7_findLines_37 : decode cX7_findLines 37 = .ok (.aload_n 0, 1) := by decide +kernel
theorem dX7_findLines_38 : decode cX7_findLines 38 = .ok (.getfield 88, 3) := by decide +kernel
theorem dX7_findLines_41 : decode cX7_findLines 41 = .ok (.if_icmp .ge 23, 3) := by decide +kernel
theorem dX7_findLines_44 : decode cX7_findLines 44 = .ok (.aload_n 0, 1) := by decide +kernel
theorem dX7_findLines_45 : decode cX7_findLines 45 = .ok (.iload_n 1, 1) := by decide +kernel
theorem dX7_findLines_46 : decode cX7_findLines 46 = .ok (.iload_n 2, 1) := by decide +kernel
theorem dX7_findLines_47 : decode cX7_findLines 47 = .ok (.iload_n 3, 1) := by decide +kernel
theorem dX7_findLines_48 : decode cX7_findLines 48 = .ok (.invokevirtual 118, 3) := by decide +kernel
theorem dX7_findLines_51 : decode cX7_findLines 51 = .ok (.ifCond .eq 7, 3) := by decide +kernel
theorem dX7_findLines_54 : decode cX7_findLines 54 = .ok (.aload_n 0, 1) := by decide +kernel
theorem dX7_findLines_55 : decode cX7_findLines 55 = .ok (.invokevirtual 122, 3) := by decide +kernel
theorem dX7_findLines_58 : decode cX7_findLines 58 = .ok (.iinc 3 1, 3) := by decide +kernel
theorem dX7_findLines_61 : decode cX7_findLines 61 = .ok (.goto (-25), 3) := by decide +kernel
theorem dX7_findLines_64 : decode cX7_findLines 64 = .ok (.iinc 2 1, 3) := by decide +kernel
theorem dX7_findLines_67 : decode cX7_findLines 67 = .ok (.goto (-43), 3) := by decide +kernel
theorem dX7_findLines_70 : decode cX7_findLines 70 = .ok (.iinc 1 1, 3) := by decide +kernel
theorem dX7_findLines_73 : decode cX7_findLines 73 = .ok (.goto (-61), 3) := by decide +kernel
theorem dX7_findLines_76 : decode cX7_findLines 76 = .ok (.return_, 1) := by decide +kernel
theorem dX7_takeSpot_0 : decode cX7_takeSpot 0 = .ok (.aload_n 0, 1) := by decide +kernel
theorem dX7_takeSpot_1 : decode cX7_takeSpot 1 = .ok (.getfield 39, 3) := by decide +kernel
theorem dX7_takeSpot_4 : decode cX7_takeSpot 4 = .ok (.iconst 0, 1) := by decide +kernel
theorem dX7_takeSpot_5 : decode cX7_takeSpot 5 = .ok (.laload, 1) := by decide +kernel
theorem dX7_takeSpot_6 : decode cX7_takeSpot 6 = .ok (.aload_n 0, 1) := by decide +kernel
theorem dX7_takeSpot_7 : decode cX7_takeSpot 7 = .ok (.getfield 39, 3) := by decide +kernel
theorem dX7_takeSpot_10 : decode cX7_takeSpot 10 = .ok (.iconst 1, 1) := by decide +kernel
theorem dX7_takeSpot_11 : decode cX7_takeSpot 11 = .ok (.laload, 1) := by decide +kernel
theorem dX7_takeSpot_12 : decode cX7_takeSpot 12 = .ok (.invokestatic 125, 3) := by decide +kernel
theorem dX7_takeSpot_15 : decode cX7_takeSpot 15 = .ok (.aload_n 0, 1) := by decide +kernel
theorem dX7_takeSpot_16 : decode cX7_takeSpot 16 = .ok (.getfield 39, 3) := by decide +kernel
theorem dX7_takeSpot_19 : decode cX7_takeSpot 19 = .ok (.iconst 2, 1) := by decide +kernel
theorem dX7_takeSpot_20 : decode cX7_takeSpot 20 = .ok (.laload, 1) := by decide +kernel
theorem dX7_takeSpot_21 : decode cX7_takeSpot 21 = .ok (.aload_n 0, 1) := by decide +kernel
theorem dX7_takeSpot_22 : decode cX7_takeSpot 22 = .ok (.getfield 91, 3) := by decide +kernel
theorem dX7_takeSpot_25 : decode cX7_takeSpot 25 = .ok (.invokestatic 125, 3) := by decide +kernel
theorem dX7_takeSpot_28 : decode cX7_takeSpot 28 = .ok (.invokestatic 125, 3) := by decide +kernel
theorem dX7_takeSpot_31 : decode cX7_takeSpot 31 = .ok (.lstore_n 1, 1) := by decide +kernel
theorem dX7_takeSpot_32 : decode cX7_takeSpot 32 = .ok (.aload_n 0, 1) := by decide +kernel
theorem dX7_takeSpot_33 : decode cX7_takeSpot 33 = .ok (.getfield 39, 3) := by decide +kernel
theorem dX7_takeSpot_36 : decode cX7_takeSpot 36 = .ok (.iconst 0, 1) := by decide +kernel
theorem dX7_takeSpot_37 : decode cX7_takeSpot 37 = .ok (.laload, 1) := by decide +kernel
theorem dX7_takeSpot_38 : decode cX7_takeSpot 38 = .ok (.lload_n 1, 1) := by decide +kernel
theorem dX7_takeSpot_39 : decode cX7_takeSpot 39 = .ok (.ldiv, 1) := by decide +kernel
theorem dX7_takeSpot_40 : decode cX7_takeSpot 40 = .ok (.lstore_n 3, 1) := by decide +kernel
theorem dX7_takeSpot_41 : decode cX7_takeSpot 41 = .ok (.aload_n 0, 1) := by decide +kernel
theorem dX7_takeSpot_42 : decode cX7_takeSpot 42 = .ok (.getfield 39, 3) := by decide +kernel
theorem dX7_takeSpot_45 : decode cX7_takeSpot 45 = .ok (.iconst 1, 1) := by decide +kernel
theorem dX7_takeSpot_46 : decode cX7_takeSpot 46 = .ok (.laload, 1) := by decide +kernel
theorem dX7_takeSpot_47 : decode cX7_takeSpot 47 = .ok (.lload_n 1, 1) := by decide +kernel
theorem dX7_takeSpot_48 : decode cX7_takeSpot 48 = .ok (.ldiv, 1) := by decide +kernel
theorem dX7_takeSpot_49 : decode cX7_takeSpot 49 = .ok (.lstore 5, 2) := by decide +kernel
theorem dX7_takeSpot_51 : decode cX7_takeSpot 51 = .ok (.aload_n 0, 1) := by decide +kernel
theorem dX7_takeSpot_52 : decode cX7_takeSpot 52 = .ok (.getfield 39, 3) := by decide +kernel
theorem dX7_takeSpot_55 : decode cX7_takeSpot 55 = .ok (.iconst 2, 1) := by decide +kernel
theorem dX7_takeSpot_56 : decode cX7_takeSpot 56 = .ok (.laload, 1) := by decide +kernel
theorem dX7_takeSpot_57 : decode cX7_takeSpot 57 = .ok (.lload_n 1, 1) := by decide +kernel
theorem dX7_takeSpot_58 : decode cX7_takeSpot 58 = .ok (.ldiv, 1) := by decide +kernel
theorem dX7_takeSpot_59 : decode cX7_takeSpot 59 = .ok (.lstore 7, 2) := by decide +kernel
theorem dX7_takeSpot_61 : decode cX7_takeSpot 61 = .ok (.aload_n 0, 1) := by decide +kernel
theorem dX7_takeSpot_62 : decode cX7_takeSpot 62 = .ok (.getfield 91, 3) := by decide +kernel
theorem dX7_takeSpot_65 : decode cX7_takeSpot 65 = .ok (.lload_n 1, 1) := by decide +kernel
theorem dX7_takeSpot_66 : decode cX7_takeSpot 66 = .ok (.ldiv, 1) := by decide +kernel
theorem dX7_takeSpot_67 : decode cX7_takeSpot 67 = .ok (.lstore 9, 2) := by decide +kernel
theorem dX7_takeSpot_69 : decode cX7_takeSpot 69 = .ok (.aload_n 0, 1) := by decide +kernel
theorem dX7_takeSpot_70 : decode cX7_takeSpot 70 = .ok (.getfield 114, 3) := by decide +kernel
theorem dX7_takeSpot_73 : decode cX7_takeSpot 73 = .ok (.ifCond .ne 7, 3) := by decide +kernel
theorem dX7_takeSpot_76 : decode cX7_takeSpot 76 = .ok (.iconst 1, 1) := by decide +kernel
theorem dX7_takeSpot_77 : decode cX7_takeSpot 77 = .ok (.goto 20, 3) := by decide +kernel
theorem dX7_takeSpot_80 : decode cX7_takeSpot 80 = .ok (.lload 7, 2) := by decide +kernel
theorem dX7_takeSpot_82 : decode cX7_takeSpot 82 = .ok (.lload 9, 2) := by decide +kernel
theorem dX7_takeSpot_84 : decode cX7_takeSpot 84 = .ok (.aload_n 0, 1) := by decide +kernel
theorem dX7_takeSpot_85 : decode cX7_takeSpot 85 = .ok (.getfield 42, 3) := by decide +kernel
theorem dX7_takeSpot_88 : decode cX7_takeSpot 88 = .ok (.iconst 2, 1) := by decide +kernel
theorem dX7_takeSpot_89 : decode cX7_takeSpot 89 = .ok (.laload, 1) := by decide +kernel
theorem dX7_takeSpot_90 : decode cX7_takeSpot 90 = .ok (.aload_n 0, 1) := by decide +kernel
theorem dX7_takeSpot_91 : decode cX7_takeSpot 91 = .ok (.getfield 128, 3) := by decide +kernel
theorem dX7_takeSpot_94 : decode cX7_takeSpot 94 = .ok (.invokestatic 131, 3) := by decide +kernel
theorem dX7_takeSpot_97 : decode cX7_takeSpot 97 = .ok (.istore 11, 2) := by decide +kernel
theorem dX7_takeSpot_99 : decode cX7_takeSpot 99 = .ok (.iload 11, 2) := by decide +kernel
theorem dX7_takeSpot_101 : decode cX7_takeSpot 101 = .ok (.ifCond .ne 23, 3) := by decide +kernel
theorem dX7_takeSpot_104 : decode cX7_takeSpot 104 = .ok (.lload_n 3, 1) := by decide +kernel
theorem dX7_takeSpot_105 : decode cX7_takeSpot 105 = .ok (.lload 9, 2) := by decide +kernel
theorem dX7_takeSpot_107 : decode cX7_takeSpot 107 = .ok (.aload_n 0, 1) := by decide +kernel
theorem dX7_takeSpot_108 : decode cX7_takeSpot 108 = .ok (.getfield 42, 3) := by decide +kernel
theorem dX7_takeSpot_111 : decode cX7_takeSpot 111 = .ok (.iconst 0, 1) := by decide +kernel
theorem dX7_takeSpot_112 : decode cX7_takeSpot 112 = .ok (.laload, 1) := by decide +kernel
theorem dX7_takeSpot_113 : decode cX7_takeSpot 113 = .ok (.aload_n 0, 1) := by decide +kernel
theorem dX7_takeSpot_114 : decode cX7_takeSpot 114 = .ok (.getfield 128, 3) := by decide +kernel
theorem dX7_takeSpot_117 : decode cX7_takeSpot 117 = .ok (.invokestatic 131, 3) := by decide +kernel
theorem dX7_takeSpot_120 : decode cX7_takeSpot 120 = .ok (.ineg, 1) := by decide +kernel
theorem dX7_takeSpot_121 : decode cX7_takeSpot 121 = .ok (.goto 5, 3) := by decide +kernel
theorem dX7_takeSpot_124 : decode cX7_takeSpot 124 = .ok (.iload 11, 2) := by decide +kernel
theorem dX7_takeSpot_126 : decode cX7_takeSpot 126 = .ok (.istore 11, 2) := by decide +kernel
theorem dX7_takeSpot_128 : decode cX7_takeSpot 128 = .ok (.iload 11, 2) := by decide +kernel
theorem dX7_takeSpot_130 : decode cX7_takeSpot 130 = .ok (.ifCond .ne 24, 3) := by decide +kernel
theorem dX7_takeSpot_133 : decode cX7_takeSpot 133 = .ok (.lload 5, 2) := by decide +kernel
theorem dX7_takeSpot_135 : decode cX7_takeSpot 135 = .ok (.lload 9, 2) := by decide +kernel
theorem dX7_takeSpot_137 : decode cX7_takeSpot 137 = .ok (.aload_n 0, 1) := by decide +kernel
theorem dX7_takeSpot_138 : decode cX7_takeSpot 138 = .ok (.getfield 42, 3) := by decide +kernel
theorem dX7_takeSpot_141 : decode cX7_takeSpot 141 = .ok (.iconst 1, 1) := by decide +kernel
theorem dX7_takeSpot_142 : decode cX7_takeSpot 142 = .ok (.laload, 1) := by decide +kernel
theorem dX7_takeSpot_143 : decode cX7_takeSpot 143 = .ok (.aload_n 0, 1) := by decide +kernel
theorem dX7_takeSpot_144 : decode cX7_takeSpot 144 = .ok (.getfield 128, 3) := by decide +kernel
theorem dX7_takeSpot_147 : decode cX7_takeSpot 147 = .ok (.invokestatic 131, 3) := by decide +kernel
theorem dX7_takeSpot_150 : decode cX7_takeSpot 150 = .ok (.ineg, 1) := by decide +kernel
theorem dX7_takeSpot_151 : decode cX7_takeSpot 151 = .ok (.goto 5, 3) := by decide +kernel
theorem dX7_takeSpot_154 : decode cX7_takeSpot 154 = .ok (.iload 11, 2) := by decide +kernel
theorem dX7_takeSpot_156 : decode cX7_takeSpot 156 = .ok (.istore 11, 2) := by decide +kernel
theorem dX7_takeSpot_158 : decode cX7_takeSpot 158 = .ok (.iload 11, 2) := by decide +kernel
theorem dX7_takeSpot_160 : decode cX7_takeSpot 160 = .ok (.ifCond .le 32, 3) := by decide +kernel
theorem dX7_takeSpot_163 : decode cX7_takeSpot 163 = .ok (.aload_n 0, 1) := by decide +kernel
theorem dX7_takeSpot_164 : decode cX7_takeSpot 164 = .ok (.getfield 42, 3) := by decide +kernel
theorem dX7_takeSpot_167 : decode cX7_takeSpot 167 = .ok (.iconst 0, 1) := by decide +kernel
theorem dX7_takeSpot_168 : decode cX7_takeSpot 168 = .ok (.lload_n 3, 1) := by decide +kernel
theorem dX7_takeSpot_169 : decode cX7_takeSpot 169 = .ok (.lastore, 1) := by decide +kernel
theorem dX7_takeSpot_170 : decode cX7_takeSpot 170 = .ok (.aload_n 0, 1) := by decide +kernel
theorem dX7_takeSpot_171 : decode cX7_takeSpot 171 = .ok (.getfield 42, 3) := by decide +kernel
theorem dX7_takeSpot_174 : decode cX7_takeSpot 174 = .ok (.iconst 1, 1) := by decide +kernel
theorem dX7_takeSpot_175 : decode cX7_takeSpot 175 = .ok (.lload 5, 2) := by decide +kernel
theorem dX7_takeSpot_177 : decode cX7_takeSpot 177 = .ok (.lastore, 1) := by decide +kernel
theorem dX7_takeSpot_178 : decode cX7_takeSpot 178 = .ok (.aload_n 0, 1) := by decide +kernel
theorem dX7_takeSpot_179 : decode cX7_takeSpot 179 = .ok (.getfield 42, 3) := by decide +kernel
theorem dX7_takeSpot_182 : decode cX7_takeSpot 182 = .ok (.iconst 2, 1) := by decide +kernel
theorem dX7_takeSpot_183 : decode cX7_takeSpot 183 = .ok (.lload 7, 2) := by decide +kernel
theorem dX7_takeSpot_185 : decode cX7_takeSpot 185 = .ok (.lastore, 1) := by decide +kernel
theorem dX7_takeSpot_186 : decode cX7_takeSpot 186 = .ok (.aload_n 0, 1) := by decide +kernel
theorem dX7_takeSpot_187 : decode cX7_takeSpot 187 = .ok (.lload 9, 2) := by decide +kernel
theorem dX7_takeSpot_189 : decode cX7_takeSpot 189 = .ok (.putfield 128, 3) := by decide +kernel
theorem dX7_takeSpot_192 : decode cX7_takeSpot 192 = .ok (.aload_n 0, 1) := by decide +kernel
theorem dX7_takeSpot_193 : decode cX7_takeSpot 193 = .ok (.getfield 114, 3) := by decide +kernel
theorem dX7_takeSpot_196 : decode cX7_takeSpot 196 = .ok (.ifCond .eq 21, 3) := by decide +kernel
theorem dX7_takeSpot_199 : decode cX7_takeSpot 199 = .ok (.lload 7, 2) := by decide +kernel
theorem dX7_takeSpot_201 : decode cX7_takeSpot 201 = .ok (.lload 9, 2) := by decide +kernel
theorem dX7_takeSpot_203 : decode cX7_takeSpot 203 = .ok (.aload_n 0, 1) := by decide +kernel
theorem dX7_takeSpot_204 : decode cX7_takeSpot 204 = .ok (.getfield 135, 3) := by decide +kernel
theorem dX7_takeSpot_207 : decode cX7_takeSpot 207 = .ok (.aload_n 0, 1) := by decide +kernel
theorem dX7_takeSpot_208 : decode cX7_takeSpot 208 = .ok (.getfield 138, 3) := by decide +kernel
theorem dX7_takeSpot_211 : decode cX7_takeSpot 211 = .ok (.invokestatic 131, 3) := by decide +kernel
theorem dX7_takeSpot_214 : decode cX7_takeSpot 214 = .ok (.ifCond .ge 15, 3) := by decide +kernel
theorem dX7_takeSpot_217 : decode cX7_takeSpot 217 = .ok (.aload_n 0, 1) := by decide +kernel
theorem dX7_takeSpot_218 : decode cX7_takeSpot 218 = .ok (.lload 7, 2) := by decide +kernel
theorem dX7_takeSpot_220 : decode cX7_takeSpot 220 = .ok (.putfield 135, 3) := by decide +kernel
theorem dX7_takeSpot_223 : decode cX7_takeSpot 223 = .ok (.aload_n 0, 1) := by decide +kernel
theorem dX7_takeSpot_224 : decode cX7_takeSpot 224 = .ok (.lload 9, 2) := by decide +kernel
theorem dX7_takeSpot_226 : decode cX7_takeSpot 226 = .ok (.putfield 138, 3) := by decide +kernel
theorem dX7_takeSpot_229 : decode cX7_takeSpot 229 = .ok (.aload_n 0, 1) := by decide +kernel
theorem dX7_takeSpot_230 : decode cX7_takeSpot 230 = .ok (.iconst 1, 1) := by decide +kernel
theorem dX7_takeSpot_231 : decode cX7_takeSpot 231 = .ok (.putfield 114, 3) := by decide +kernel
theorem dX7_takeSpot_234 : decode cX7_takeSpot 234 = .ok (.return_, 1) := by decide +kernel
theorem dX7_isLoose_0 : decode cX7_isLoose 0 = .ok (.iconst 1, 1) := by decide +kernel
theorem dX7_isLoose_1 : decode cX7_isLoose 1 = .ok (.istore_n 1, 1) := by decide +kernel
theorem dX7_isLoose_2 : decode cX7_isLoose 2 = .ok (.iconst 0, 1) := by decide +kernel
theorem dX7_isLoose_3 : decode cX7_isLoose 3 = .ok (.istore_n 2, 1) := by decide +kernel
theorem dX7_isLoose_4 : decode cX7_isLoose 4 = .ok (.iload_n 2, 1) := by decide +kernel
theorem dX7_isLoose_5 : decode cX7_isLoose 5 = .ok (.aload_n 0, 1) := by decide +kernel
theorem dX7_isLoose_6 : decode cX7_isLoose 6 = .ok (.getfield 7, 3) := by decide +kernel
theorem dX7_isLoose_9 : decode cX7_isLoose 9 = .ok (.if_icmp .gt 27, 3) := by decide +kernel
theorem dX7_isLoose_12 : decode cX7_isLoose 12 = .ok (.iload_n 1, 1) := by decide +kernel
theorem dX7_isLoose_13 : decode cX7_isLoose 13 = .ok (.ifCond .eq 15, 3) := by decide +kernel
theorem dX7_isLoose_16 : decode cX7_isLoose 16 = .ok (.aload_n 0, 1) := by decide +kernel
theorem dX7_isLoose_17 : decode cX7_isLoose 17 = .ok (.iload_n 2, 1) := by decide +kernel
theorem dX7_isLoose_18 : decode cX7_isLoose 18 = .ok (.invokevirtual 78, 3) := by decide +kernel
theorem dX7_isLoose_21 : decode cX7_isLoose 21 = .ok (.ifCond .ne 7, 3) := by decide +kernel
theorem dX7_isLoose_24 : decode cX7_isLoose 24 = .ok (.iconst 1, 1) := by decide +kernel
theorem dX7_isLoose_25 : decode cX7_isLoose 25 = .ok (.goto 4, 3) := by decide +kernel
theorem dX7_isLoose_28 : decode cX7_isLoose 28 = .ok (.iconst 0, 1) := by decide +kernel
theorem dX7_isLoose_29 : decode cX7_isLoose 29 = .ok (.istore_n 1, 1) := by decide +kernel
theorem dX7_isLoose_30 : decode cX7_isLoose 30 = .ok (.iinc 2 1, 3) := by decide +kernel
theorem dX7_isLoose_33 : decode cX7_isLoose 33 = .ok (.goto (-29), 3) := by decide +kernel
theorem dX7_isLoose_36 : decode cX7_isLoose 36 = .ok (.iload_n 1, 1) := by decide +kernel
theorem dX7_isLoose_37 : decode cX7_isLoose 37 = .ok (.ireturn, 1) := by decide +kernel
theorem dX7_stands_0 : decode cX7_stands 0 = .ok (.aload_n 0, 1) := by decide +kernel
theorem dX7_stands_1 : decode cX7_stands 1 = .ok (.invokevirtual 141, 3) := by decide +kernel
theorem dX7_stands_4 : decode cX7_stands 4 = .ok (.aload_n 0, 1) := by decide +kernel
theorem dX7_stands_5 : decode cX7_stands 5 = .ok (.getfield 114, 3) := by decide +kernel
theorem dX7_stands_8 : decode cX7_stands 8 = .ok (.ifCond .eq 7, 3) := by decide +kernel
theorem dX7_stands_11 : decode cX7_stands 11 = .ok (.iconst 1, 1) := by decide +kernel
theorem dX7_stands_12 : decode cX7_stands 12 = .ok (.goto 4, 3) := by decide +kernel
theorem dX7_stands_15 : decode cX7_stands 15 = .ok (.iconst 0, 1) := by decide +kernel
theorem dX7_stands_16 : decode cX7_stands 16 = .ok (.ireturn, 1) := by decide +kernel
theorem dX7_thrust_0 : decode cX7_thrust 0 = .ok (.iload_n 1, 1) := by decide +kernel
theorem dX7_thrust_1 : decode cX7_thrust 1 = .ok (.i2l, 1) := by decide +kernel
theorem dX7_thrust_2 : decode cX7_thrust 2 = .ok (.lconst 0, 1) := by decide +kernel
theorem dX7_thrust_3 : decode cX7_thrust 3 = .ok (.lconst 1, 1) := by decide +kernel
theorem dX7_thrust_4 : decode cX7_thrust 4 = .ok (.invokestatic 59, 3) := by decide +kernel
theorem dX7_thrust_7 : decode cX7_thrust 7 = .ok (.ifCond .eq 13, 3) := by decide +kernel
theorem dX7_thrust_10 : decode cX7_thrust 10 = .ok (.iload_n 2, 1) := by decide +kernel
theorem dX7_thrust_11 : decode cX7_thrust 11 = .ok (.i2l, 1) := by decide +kernel
theorem dX7_thrust_12 : decode cX7_thrust 12 = .ok (.lconst 0, 1) := by decide +kernel
theorem dX7_thrust_13 : decode cX7_thrust 13 = .ok (.lconst 1, 1) := by decide +kernel
theorem dX7_thrust_14 : decode cX7_thrust 14 = .ok (.invokestatic 59, 3) := by decide +kernel
theorem dX7_thrust_17 : decode cX7_thrust 17 = .ok (.ifCond .ne 7, 3) := by decide +kernel
theorem dX7_thrust_20 : decode cX7_thrust 20 = .ok (.ldc2_w 144, 3) := by decide +kernel
theorem dX7_thrust_23 : decode cX7_thrust 23 = .ok (.lreturn, 1) := by decide +kernel
theorem dX7_thrust_24 : decode cX7_thrust 24 = .ok (.aload_n 0, 1) := by decide +kernel
theorem dX7_thrust_25 : decode cX7_thrust 25 = .ok (.invokevirtual 141, 3) := by decide +kernel
theorem dX7_thrust_28 : decode cX7_thrust 28 = .ok (.aload_n 0, 1) := by decide +kernel
theorem dX7_thrust_29 : decode cX7_thrust 29 = .ok (.getfield 114, 3) := by decide +kernel
theorem dX7_thrust_32 : decode cX7_thrust 32 = .ok (.ifCond .ne 7, 3) := by decide +kernel
theorem dX7_thrust_35 : decode cX7_thrust 35 = .ok (.ldc2_w 86, 3) := by decide +kernel
theorem dX7_thrust_38 : decode cX7_thrust 38 = .ok (.lreturn, 1) := by decide +kernel
theorem dX7_thrust_39 : decode cX7_thrust 39 = .ok (.iload_n 1, 1) := by decide +kernel
theorem dX7_thrust_40 : decode cX7_thrust 40 = .ok (.ifCond .ne 12, 3) := by decide +kernel
theorem dX7_thrust_43 : decode cX7_thrust 43 = .ok (.aload_n 0, 1) := by decide +kernel
theorem dX7_thrust_44 : decode cX7_thrust 44 = .ok (.getfield 42, 3) := by decide +kernel
theorem dX7_thrust_47 : decode cX7_thrust 47 = .ok (.iconst 2, 1) := by decide +kernel
theorem dX7_thrust_48 : decode cX7_thrust 48 = .ok (.laload, 1) := by decide +kernel
theorem dX7_thrust_49 : decode cX7_thrust 49 = .ok (.goto 7, 3) := by decide +kernel
theorem dX7_thrust_52 : decode cX7_thrust 52 = .ok (.aload_n 0, 1) := by decide +kernel
theorem dX7_thrust_53 : decode cX7_thrust 53 = .ok (.getfield 135, 3) := by decide +kernel
theorem dX7_thrust_56 : decode cX7_thrust 56 = .ok (.lstore_n 3, 1) := by decide +kernel
theorem dX7_thrust_57 : decode cX7_thrust 57 = .ok (.iload_n 1, 1) := by decide +kernel
theorem dX7_thrust_58 : decode cX7_thrust 58 = .ok (.ifCond .ne 10, 3) := by decide +kernel
theorem dX7_thrust_61 : decode cX7_thrust 61 = .ok (.aload_n 0, 1) := by decide +kernel
theorem dX7_thrust_62 : decode cX7_thrust 62 = .ok (.getfield 128, 3) := by decide +kernel
theorem dX7_thrust_65 : decode cX7_thrust 65 = .ok (.goto 7, 3) := by decide +kernel
theorem dX7_thrust_68 : decode cX7_thrust 68 = .ok (.aload_n 0, 1) := by decide +kernel
theorem dX7_thrust_69 : decode cX7_thrust 69 = .ok (.getfield 138, 3) := by decide +kernel
theorem dX7_thrust_72 : decode cX7_thrust 72 = .ok (.lstore 5, 2) := by decide +kernel
theorem dX7_thrust_74 : decode cX7_thrust 74 = .ok (.iload_n 1, 1) := by decide +kernel
theorem dX7_thrust_75 : decode cX7_thrust 75 = .ok (.ifCond .ne 10, 3) := by decide +kernel
theorem dX7_thrust_78 : decode cX7_thrust 78 = .ok (.aload_n 0, 1) := by decide +kernel
theorem dX7_thrust_79 : decode cX7_thrust 79 = .ok (.invokevirtual 146, 3) := by decide +kernel
theorem dX7_thrust_82 : decode cX7_thrust 82 = .ok (.ifCond .ne 9, 3) := by decide +kernel
theorem dX7_thrust_85 : decode cX7_thrust 85 = .ok (.lload_n 3, 1) := by decide +kernel
theorem dX7_thrust_86 : decode cX7_thrust 86 = .ok (.lconst 0, 1) := by decide +kernel
theorem dX7_thrust_87 : decode cX7_thrust 87 = .ok (.lcmp, 1) := by decide +kernel
theorem dX7_thrust_88 : decode cX7_thrust 88 = .ok (.ifCond .ne 7, 3) := by decide +kernel
theorem dX7_thrust_91 : decode cX7_thrust 91 = .ok (.ldc2_w 149, 3) := by decide +kernel
theorem dX7_thrust_94 : decode cX7_thrust 94 = .ok (.lreturn, 1) := by decide +kernel
theorem dX7_thrust_95 : decode cX7_thrust 95 = .ok (.lload_n 3, 1) := by decide +kernel
theorem dX7_thrust_96 : decode cX7_thrust 96 = .ok (.lload 5, 2) := by decide +kernel
theorem dX7_thrust_98 : decode cX7_thrust 98 = .ok (.invokestatic 125, 3) := by decide +kernel
theorem dX7_thrust_101 : decode cX7_thrust 101 = .ok (.lstore 7, 2) := by decide +kernel
theorem dX7_thrust_103 : decode cX7_thrust 103 = .ok (.iload_n 2, 1) := by decide +kernel
theorem dX7_thrust_104 : decode cX7_thrust 104 = .ok (.ifCond .ne 11, 3) := by decide +kernel
theorem dX7_thrust_107 : decode cX7_thrust 107 = .ok (.lload 5, 2) := by decide +kernel
theorem dX7_thrust_109 : decode cX7_thrust 109 = .ok (.lload 7, 2) := by decide +kernel
theorem dX7_thrust_111 : decode cX7_thrust 111 = .ok (.ldiv, 1) := by decide +kernel
theorem dX7_thrust_112 : decode cX7_thrust 112 = .ok (.goto 7, 3) := by decide +kernel
theorem dX7_thrust_115 : decode cX7_thrust 115 = .ok (.lload_n 3, 1) := by decide +kernel
theorem dX7_thrust_116 : decode cX7_thrust 116 = .ok (.lload 7, 2) := by decide +kernel
theorem dX7_thrust_118 : decode cX7_thrust 118 = .ok (.ldiv, 1) := by decide +kernel
theorem dX7_thrust_119 : decode cX7_thrust 119 = .ok (.lreturn, 1) := by decide +kernel
theorem dX7_height_0 : decode cX7_height 0 = .ok (.iload_n 1, 1) := by decide +kernel
theorem dX7_height_1 : decode cX7_height 1 = .ok (.i2l, 1) := by decide +kernel
theorem dX7_height_2 : decode cX7_height 2 = .ok (.lconst 0, 1) := by decide +kernel
theorem dX7_height_3 : decode cX7_height 3 = .ok (.aload_n 0, 1) := by decide +kernel
theorem dX7_height_4 : decode cX7_height 4 = .ok (.getfield 7, 3) := by decide +kernel
theorem dX7_height_7 : decode cX7_height 7 = .ok (.i2l, 1) := by decide +kernel
theorem dX7_height_8 : decode cX7_height 8 = .ok (.invokestatic 59, 3) := by decide +kernel
theorem dX7_height_11 : decode cX7_height 11 = .ok (.ifCond .eq 13, 3) := by decide +kernel
theorem dX7_height_14 : decode cX7_height 14 = .ok (.iload_n 2, 1) := by decide +kernel
theorem dX7_height_15 : decode cX7_height 15 = .ok (.i2l, 1) := by decide +kernel
theorem dX7_height_16 : decode cX7_height 16 = .ok (.lconst 0, 1) := by decide +kernel
theorem dX7_height_17 : decode cX7_height 17 = .ok (.lconst 1, 1) := by decide +kernel
theorem dX7_height_18 : decode cX7_height 18 = .ok (.invokestatic 59, 3) := by decide +kernel
theorem dX7_height_21 : decode cX7_height 21 = .ok (.ifCond .ne 7, 3) := by decide +kernel
theorem dX7_height_24 : decode cX7_height 24 = .ok (.ldc2_w 151, 3) := by decide +kernel
theorem dX7_height_27 : decode cX7_height 27 = .ok (.lreturn, 1) := by decide +kernel
theorem dX7_height_28 : decode cX7_height 28 = .ok (.aload_n 0, 1) := by decide +kernel
theorem dX7_height_29 : decode cX7_height 29 = .ok (.invokevirtual 141, 3) := by decide +kernel
theorem dX7_height_32 : decode cX7_height 32 = .ok (.aload_n 0, 1) := by decide +kernel
theorem dX7_height_33 : decode cX7_height 33 = .ok (.getfield 114, 3) := by decide +kernel
theorem dX7_height_36 : decode cX7_height 36 = .ok (.ifCond .ne 7, 3) := by decide +kernel
theorem dX7_height_39 : decode cX7_height 39 = .ok (.ldc2_w 153, 3) := by decide +kernel
theorem dX7_height_42 : decode cX7_height 42 = .ok (.lreturn, 1) := by decide +kernel
theorem dX7_height_43 : decode cX7_height 43 = .ok (.aload_n 0, 1) := by decide +kernel
theorem dX7_height_44 : decode cX7_height 44 = .ok (.invokevirtual 146, 3) := by decide +kernel
theorem dX7_height_47 : decode cX7_height 47 = .ok (.ifCond .eq 7, 3) := by decide +kernel
theorem dX7_height_50 : decode cX7_height 50 = .ok (.ldc2_w 155, 3) := by decide +kernel
theorem dX7_height_53 : decode cX7_height 53 = .ok (.lreturn, 1) := by decide +kernel
theorem dX7_height_54 : decode cX7_height 54 = .ok (.aload_n 0, 1) := by decide +kernel
theorem dX7_height_55 : decode cX7_height 55 = .ok (.getfield 42, 3) := by decide +kernel
theorem dX7_height_58 : decode cX7_height 58 = .ok (.iconst 0, 1) := by decide +kernel
theorem dX7_height_59 : decode cX7_height 59 = .ok (.laload, 1) := by decide +kernel
theorem dX7_height_60 : decode cX7_height 60 = .ok (.aload_n 0, 1) := by decide +kernel
theorem dX7_height_61 : decode cX7_height 61 = .ok (.getfield 13, 3) := by decide +kernel
theorem dX7_height_64 : decode cX7_height 64 = .ok (.aload_n 0, 1) := by decide +kernel
theorem dX7_height_65 : decode cX7_height 65 = .ok (.getfield 7, 3) := by decide +kernel
theorem dX7_height_68 : decode cX7_height 68 = .ok (.iaload, 1) := by decide +kernel
theorem dX7_height_69 : decode cX7_height 69 = .ok (.aload_n 0, 1) := by decide +kernel
theorem dX7_height_70 : decode cX7_height 70 = .ok (.getfield 13, 3) := by decide +kernel
theorem dX7_height_73 : decode cX7_height 73 = .ok (.iload_n 1, 1) := by decide +kernel
theorem dX7_height_74 : decode cX7_height 74 = .ok (.iaload, 1) := by decide +kernel
theorem dX7_height_75 : decode cX7_height 75 = .ok (.isub, 1) := by decide +kernel
theorem dX7_height_76 : decode cX7_height 76 = .ok (.i2l, 1) := by decide +kernel
theorem dX7_height_77 : decode cX7_height 77 = .ok (.lmul, 1) := by decide +kernel
theorem dX7_height_78 : decode cX7_height 78 = .ok (.aload_n 0, 1) := by decide +kernel
theorem dX7_height_79 : decode cX7_height 79 = .ok (.getfield 42, 3) := by decide +kernel
theorem dX7_height_82 : decode cX7_height 82 = .ok (.iconst 1, 1) := by decide +kernel
theorem dX7_height_83 : decode cX7_height 83 = .ok (.laload, 1) := by decide +kernel
theorem dX7_height_84 : decode cX7_height 84 = .ok (.aload_n 0, 1) := by decide +kernel
theorem dX7_height_85 : decode cX7_height 85 = .ok (.getfield 13, 3) := by decide +kernel
theorem dX7_height_88 : decode cX7_height 88 = .ok (.iload_n 1, 1) := by decide +kernel
theorem dX7_height_89 : decode cX7_height 89 = .ok (.iaload, 1) := by decide +kernel
theorem dX7_height_90 : decode cX7_height 90 = .ok (.i2l, 1) := by decide +kernel
theorem dX7_height_91 : decode cX7_height 91 = .ok (.lmul, 1) := by decide +kernel
theorem dX7_height_92 : decode cX7_height 92 = .ok (.ladd, 1) := by decide +kernel
theorem dX7_height_93 : decode cX7_height 93 = .ok (.aload_n 0, 1) := by decide +kernel
theorem dX7_height_94 : decode cX7_height 94 = .ok (.getfield 42, 3) := by decide +kernel
theorem dX7_height_97 : decode cX7_height 97 = .ok (.iconst 2, 1) := by decide +kernel
theorem dX7_height_98 : decode cX7_height 98 = .ok (.laload, 1) := by decide +kernel
theorem dX7_height_99 : decode cX7_height 99 = .ok (.aload_n 0, 1) := by decide +kernel
theorem dX7_height_100 : decode cX7_height 100 = .ok (.iload_n 1, 1) := by decide +kernel
theorem dX7_height_101 : decode cX7_height 101 = .ok (.invokevirtual 78, 3) := by decide +kernel
theorem dX7_height_104 : decode cX7_height 104 = .ok (.i2l, 1) := by decide +kernel
theorem dX7_height_105 : decode cX7_height 105 = .ok (.lmul, 1) := by decide +kernel
theorem dX7_height_106 : decode cX7_height 106 = .ok (.ladd, 1) := by decide +kernel
theorem dX7_height_107 : decode cX7_height 107 = .ok (.lstore_n 3, 1) := by decide +kernel
theorem dX7_height_108 : decode cX7_height 108 = .ok (.aload_n 0, 1) := by decide +kernel
theorem dX7_height_109 : decode cX7_height 109 = .ok (.getfield 128, 3) := by decide +kernel
theorem dX7_height_112 : decode cX7_height 112 = .ok (.aload_n 0, 1) := by decide +kernel
theorem dX7_height_113 : decode cX7_height 113 = .ok (.getfield 13, 3) := by decide +kernel
theorem dX7_height_116 : decode cX7_height 116 = .ok (.aload_n 0, 1) := by decide +kernel
theorem dX7_height_117 : decode cX7_height 117 = .ok (.getfield 7, 3) := by decide +kernel
theorem dX7_height_120 : decode cX7_height 120 = .ok (.iaload, 1) := by decide +kernel
theorem dX7_height_121 : decode cX7_height 121 = .ok (.i2l, 1) := by decide +kernel
theorem dX7_height_122 : decode cX7_height 122 = .ok (.lmul, 1) := by decide +kernel
theorem dX7_height_123 : decode cX7_height 123 = .ok (.lstore 5, 2) := by decide +kernel
theorem dX7_height_125 : decode cX7_height 125 = .ok (.lload_n 3, 1) := by decide +kernel
theorem dX7_height_126 : decode cX7_height 126 = .ok (.lload 5, 2) := by decide +kernel
theorem dX7_height_128 : decode cX7_height 128 = .ok (.invokestatic 125, 3) := by decide +kernel
theorem dX7_height_131 : decode cX7_height 131 = .ok (.lstore 7, 2) := by decide +kernel
theorem dX7_height_133 : decode cX7_height 133 = .ok (.iload_n 2, 1) := by decide +kernel
theorem dX7_height_134 : decode cX7_height 134 = .ok (.ifCond .ne 10, 3) := by decide +kernel
theorem dX7_height_137 : decode cX7_height 137 = .ok (.lload_n 3, 1) := by decide +kernel
theorem dX7_height_138 : decode cX7_height 138 = .ok (.lload 7, 2) := by decide +kernel
theorem dX7_height_140 : decode cX7_height 140 = .ok (.ldiv, 1) := by decide +kernel
theorem dX7_height_141 : decode cX7_height 141 = .ok (.goto 8, 3) := by decide +kernel
theorem dX7_height_144 : decode cX7_height 144 = .ok (.lload 5, 2) := by decide +kernel
theorem dX7_height_146 : decode cX7_height 146 = .ok (.lload 7, 2) := by decide +kernel
theorem dX7_height_148 : decode cX7_height 148 = .ok (.ldiv, 1) := by decide +kernel
theorem dX7_height_149 : decode cX7_height 149 = .ok (.lreturn, 1) := by decide +kernel
theorem dX7_fits_0 : decode cX7_fits 0 = .ok (.iload_n 1, 1) := by decide +kernel
theorem dX7_fits_1 : decode cX7_fits 1 = .ok (.i2l, 1) := by decide +kernel
theorem dX7_fits_2 : decode cX7_fits 2 = .ok (.ldc2_w 65, 3) := by decide +kernel
theorem dX7_fits_5 : decode cX7_fits 5 = .ok (.ldc2_w 63, 3) := by decide +kernel
theorem dX7_fits_8 : decode cX7_fits 8 = .ok (.invokestatic 59, 3) := by decide +kernel
theorem dX7_fits_11 : decode cX7_fits 11 = .ok (.ifCond .eq 42, 3) := by decide +kernel
theorem dX7_fits_14 : decode cX7_fits 14 = .ok (.iload_n 2, 1) := by decide +kernel
theorem dX7_fits_15 : decode cX7_fits 15 = .ok (.i2l, 1) := by decide +kernel
theorem dX7_fits_16 : decode cX7_fits 16 = .ok (.ldc2_w 65, 3) := by decide +kernel
theorem dX7_fits_19 : decode cX7_fits 19 = .ok (.ldc2_w 63, 3) := by decide +kernel
theorem dX7_fits_22 : decode cX7_fits 22 = .ok (.invokestatic 59, 3) := by decide +kernel
theorem dX7_fits_25 : decode cX7_fits 25 = .ok (.ifCond .eq 28, 3) := by decide +kernel
theorem dX7_fits_28 : decode cX7_fits 28 = .ok (.iload_n 3, 1) := by decide +kernel
theorem dX7_fits_29 : decode cX7_fits 29 = .ok (.i2l, 1) := by decide +kernel
theorem dX7_fits_30 : decode cX7_fits 30 = .ok (.lconst 0, 1) := by decide +kernel
theorem dX7_fits_31 : decode cX7_fits 31 = .ok (.ldc2_w 157, 3) := by decide +kernel
theorem dX7_fits_34 : decode cX7_fits 34 = .ok (.invokestatic 59, 3) := by decide +kernel
theorem dX7_fits_37 : decode cX7_fits 37 = .ok (.ifCond .eq 16, 3) := by decide +kernel
theorem dX7_fits_40 : decode cX7_fits 40 = .ok (.iload 4, 2) := by decide +kernel
theorem dX7_fits_42 : decode cX7_fits 42 = .ok (.i2l, 1) := by decide +kernel
theorem dX7_fits_43 : decode cX7_fits 43 = .ok (.lconst 1, 1) := by decide +kernel
theorem dX7_fits_44 : decode cX7_fits 44 = .ok (.ldc2_w 157, 3) := by decide +kernel
theorem dX7_fits_47 : decode cX7_fits 47 = .ok (.invokestatic 59, 3) := by decide +kernel
theorem dX7_fits_50 : decode cX7_fits 50 = .ok (.ifCond .ne 5, 3) := by decide +kernel
theorem dX7_fits_53 : decode cX7_fits 53 = .ok (.iconst (-1), 1) := by decide +kernel
theorem dX7_fits_54 : decode cX7_fits 54 = .ok (.ireturn, 1) := by decide +kernel
theorem dX7_fits_55 : decode cX7_fits 55 = .ok (.aload_n 0, 1) := by decide +kernel
theorem dX7_fits_56 : decode cX7_fits 56 = .ok (.iconst 0, 1) := by decide +kernel
theorem dX7_fits_57 : decode cX7_fits 57 = .ok (.invokevirtual 110, 3) := by decide +kernel
theorem dX7_fits_60 : decode cX7_fits 60 = .ok (.aload_n 0, 1) := by decide +kernel
theorem dX7_fits_61 : decode cX7_fits 61 = .ok (.getfield 39, 3) := by decide +kernel
theorem dX7_fits_64 : decode cX7_fits 64 = .ok (.iconst 0, 1) := by decide +kernel
theorem dX7_fits_65 : decode cX7_fits 65 = .ok (.iload_n 1, 1) := by decide +kernel
theorem dX7_fits_66 : decode cX7_fits 66 = .ok (.i2l, 1) := by decide +kernel
theorem dX7_fits_67 : decode cX7_fits 67 = .ok (.iload 4, 2) := by decide +kernel
theorem dX7_fits_69 : decode cX7_fits 69 = .ok (.i2l, 1) := by decide +kernel
theorem dX7_fits_70 : decode cX7_fits 70 = .ok (.lmul, 1) := by decide +kernel
theorem dX7_fits_71 : decode cX7_fits 71 = .ok (.lastore, 1) := by decide +kernel
theorem dX7_fits_72 : decode cX7_fits 72 = .ok (.aload_n 0, 1) := by decide +kernel
theorem dX7_fits_73 : decode cX7_fits 73 = .ok (.getfield 39, 3) := by decide +kernel
theorem dX7_fits_76 : decode cX7_fits 76 = .ok (.iconst 1, 1) := by decide +kernel
theorem dX7_fits_77 : decode cX7_fits 77 = .ok (.iload_n 2, 1) := by decide +kernel
theorem dX7_fits_78 : decode cX7_fits 78 = .ok (.i2l, 1) := by decide +kernel
theorem dX7_fits_79 : decode cX7_fits 79 = .ok (.iload 4, 2) := by decide +kernel
theorem dX7_fits_81 : decode cX7_fits 81 = .ok (.i2l, 1) := by decide +kernel
theorem dX7_fits_82 : decode cX7_fits 82 = .ok (.lmul, 1) := by decide +kernel
theorem dX7_fits_83 : decode cX7_fits 83 = .ok (.lastore, 1) := by decide +kernel
theorem dX7_fits_84 : decode cX7_fits 84 = .ok (.aload_n 0, 1) := by decide +kernel
theorem dX7_fits_85 : decode cX7_fits 85 = .ok (.getfield 39, 3) := by decide +kernel
theorem dX7_fits_88 : decode cX7_fits 88 = .ok (.iconst 2, 1) := by decide +kernel
theorem dX7_fits_89 : decode cX7_fits 89 = .ok (.iload_n 3, 1) := by decide +kernel
theorem dX7_fits_90 : decode cX7_fits 90 = .ok (.i2l, 1) := by decide +kernel
theorem dX7_fits_91 : decode cX7_fits 91 = .ok (.lastore, 1) := by decide +kernel
theorem dX7_fits_92 : decode cX7_fits 92 = .ok (.aload_n 0, 1) := by decide +kernel
theorem dX7_fits_93 : decode cX7_fits 93 = .ok (.getfield 39, 3) := by decide +kernel
theorem dX7_fits_96 : decode cX7_fits 96 = .ok (.iconst 3, 1) := by decide +kernel
theorem dX7_fits_97 : decode cX7_fits 97 = .ok (.lconst 0, 1) := by decide +kernel
theorem dX7_fits_98 : decode cX7_fits 98 = .ok (.lastore, 1) := by decide +kernel
theorem dX7_fits_99 : decode cX7_fits 99 = .ok (.aload_n 0, 1) := by decide +kernel
theorem dX7_fits_100 : decode cX7_fits 100 = .ok (.iload 4, 2) := by decide +kernel
theorem dX7_fits_102 : decode cX7_fits 102 = .ok (.i2l, 1) := by decide +kernel
theorem dX7_fits_103 : decode cX7_fits 103 = .ok (.putfield 91, 3) := by decide +kernel
theorem dX7_fits_106 : decode cX7_fits 106 = .ok (.aload_n 0, 1) := by decide +kernel
theorem dX7_fits_107 : decode cX7_fits 107 = .ok (.invokevirtual 102, 3) := by decide +kernel
theorem dX7_fits_110 : decode cX7_fits 110 = .ok (.ifCond .eq 7, 3) := by decide +kernel
theorem dX7_fits_113 : decode cX7_fits 113 = .ok (.iconst 1, 1) := by decide +kernel
theorem dX7_fits_114 : decode cX7_fits 114 = .ok (.goto 4, 3) := by decide +kernel
theorem dX7_fits_117 : decode cX7_fits 117 = .ok (.iconst 0, 1) := by decide +kernel
theorem dX7_fits_118 : decode cX7_fits 118 = .ok (.ireturn, 1) := by decide +kernel
theorem dX7_pair_0 : decode cX7_pair 0 = .ok (.aload_n 0, 1) := by decide +kernel
theorem dX7_pair_1 : decode cX7_pair 1 = .ok (.getfield 35, 3) := by decide +kernel
theorem dX7_pair_4 : decode cX7_pair 4 = .ok (.iconst 5, 1) := by decide +kernel
theorem dX7_pair_5 : decode cX7_pair 5 = .ok (.iload_n 1, 1) := by decide +kernel
theorem dX7_pair_6 : decode cX7_pair 6 = .ok (.imul, 1) := by decide +kernel
theorem dX7_pair_7 : decode cX7_pair 7 = .ok (.iload_n 3, 1) := by decide +kernel
theorem dX7_pair_8 : decode cX7_pair 8 = .ok (.iadd, 1) := by decide +kernel
theorem dX7_pair_9 : decode cX7_pair 9 = .ok (.laload, 1) := by decide +kernel
theorem dX7_pair_10 : decode cX7_pair 10 = .ok (.aload_n 0, 1) := by decide +kernel
theorem dX7_pair_11 : decode cX7_pair 11 = .ok (.getfield 35, 3) := by decide +kernel
theorem dX7_pair_14 : decode cX7_pair 14 = .ok (.iconst 5, 1) := by decide +kernel
theorem dX7_pair_15 : decode cX7_pair 15 = .ok (.iload_n 2, 1) := by decide +kernel
theorem dX7_pair_16 : decode cX7_pair 16 = .ok (.imul, 1) := by decide +kernel
theorem dX7_pair_17 : decode cX7_pair 17 = .ok (.iload 4, 2) := by decide +kernel
theorem dX7_pair_19 : decode cX7_pair 19 = .ok (.iadd, 1) := by decide +kernel
theorem dX7_pair_20 : decode cX7_pair 20 = .ok (.laload, 1) := by decide +kernel
theorem dX7_pair_21 : decode cX7_pair 21 = .ok (.lmul, 1) := by decide +kernel
theorem dX7_pair_22 : decode cX7_pair 22 = .ok (.aload_n 0, 1) := by decide +kernel
theorem dX7_pair_23 : decode cX7_pair 23 = .ok (.getfield 35, 3) := by decide +kernel
theorem dX7_pair_26 : decode cX7_pair 26 = .ok (.iconst 5, 1) := by decide +kernel
theorem dX7_pair_27 : decode cX7_pair 27 = .ok (.iload_n 1, 1) := by decide +kernel
theorem dX7_pair_28 : decode cX7_pair 28 = .ok (.imul, 1) := by decide +kernel
theorem dX7_pair_29 : decode cX7_pair 29 = .ok (.iload 4, 2) := by decide +kernel
theorem dX7_pair_31 : decode cX7_pair 31 = .ok (.iadd, 1) := by decide +kernel
theorem dX7_pair_32 : decode cX7_pair 32 = .ok (.laload, 1) := by decide +kernel
theorem dX7_pair_33 : decode cX7_pair 33 = .ok (.aload_n 0, 1) := by decide +kernel
theorem dX7_pair_34 : decode cX7_pair 34 = .ok (.getfield 35, 3) := by decide +kernel
theorem dX7_pair_37 : decode cX7_pair 37 = .ok (.iconst 5, 1) := by decide +kernel
theorem dX7_pair_38 : decode cX7_pair 38 = .ok (.iload_n 2, 1) := by decide +kernel
theorem dX7_pair_39 : decode cX7_pair 39 = .ok (.imul, 1) := by decide +kernel
theorem dX7_pair_40 : decode cX7_pair 40 = .ok (.iload_n 3, 1) := by decide +kernel
theorem dX7_pair_41 : decode cX7_pair 41 = .ok (.iadd, 1) := by decide +kernel
theorem dX7_pair_42 : decode cX7_pair 42 = .ok (.laload, 1) := by decide +kernel
theorem dX7_pair_43 : decode cX7_pair 43 = .ok (.lmul, 1) := by decide +kernel
theorem dX7_pair_44 : decode cX7_pair 44 = .ok (.lsub, 1) := by decide +kernel
theorem dX7_pair_45 : decode cX7_pair 45 = .ok (.lreturn, 1) := by decide +kernel
theorem dX7_isAgainst_0 : decode cX7_isAgainst 0 = .ok (.lload_n 2, 1) := by decide +kernel
theorem dX7_isAgainst_1 : decode cX7_isAgainst 1 = .ok (.lconst 0, 1) := by decide +kernel
theorem dX7_isAgainst_2 : decode cX7_isAgainst 2 = .ok (.lcmp, 1) := by decide +kernel
theorem dX7_isAgainst_3 : decode cX7_isAgainst 3 = .ok (.ifCond .le 7, 3) := by decide +kernel
theorem dX7_isAgainst_6 : decode cX7_isAgainst 6 = .ok (.lconst 1, 1) := by decide +kernel
theorem dX7_isAgainst_7 : decode cX7_isAgainst 7 = .ok (.goto 6, 3) := by decide +kernel
theorem dX7_isAgainst_10 : decode cX7_isAgainst 10 = .ok (.ldc2_w 144, 3) := by decide +kernel
theorem dX7_isAgainst_13 : decode cX7_isAgainst 13 = .ok (.lstore 10, 2) := by decide +kernel
theorem dX7_isAgainst_15 : decode cX7_isAgainst 15 = .ok (.lload_n 2, 1) := by decide +kernel
theorem dX7_isAgainst_16 : decode cX7_isAgainst 16 = .ok (.lload 10, 2) := by decide +kernel
theorem dX7_isAgainst_18 : decode cX7_isAgainst 18 = .ok (.lmul, 1) := by decide +kernel
theorem dX7_isAgainst_19 : decode cX7_isAgainst 19 = .ok (.lconst 0, 1) := by decide +kernel
theorem dX7_isAgainst_20 : decode cX7_isAgainst 20 = .ok (.lcmp, 1) := by decide +kernel
theorem dX7_isAgainst_21 : decode cX7_isAgainst 21 = .ok (.ifCond .le 47, 3) := by decide +kernel
theorem dX7_isAgainst_24 : decode cX7_isAgainst 24 = .ok (.lload 4, 2) := by decide +kernel
theorem dX7_isAgainst_26 : decode cX7_isAgainst 26 = .ok (.lload 10, 2) := by decide +kernel
theorem dX7_isAgainst_28 : decode cX7_isAgainst 28 = .ok (.lmul, 1) := by decide +kernel
theorem dX7_isAgainst_29 : decode cX7_isAgainst 29 = .ok (.lconst 0, 1) := by decide +kernel
theorem dX7_isAgainst_30 : decode cX7_isAgainst 30 = .ok (.lcmp, 1) := by decide +kernel
theorem dX7_isAgainst_31 : decode cX7_isAgainst 31 = .ok (.ifCond .le 37, 3) := by decide +kernel
theorem dX7_isAgainst_34 : decode cX7_isAgainst 34 = .ok (.iload_n 1, 1) := by decide +kernel
theorem dX7_isAgainst_35 : decode cX7_isAgainst 35 = .ok (.iconst 3, 1) := by decide +kernel
theorem dX7_isAgainst_36 : decode cX7_isAgainst 36 = .ok (.if_icmp .lt 13, 3) := by decide +kernel
theorem dX7_isAgainst_39 : decode cX7_isAgainst 39 = .ok (.lload 6, 2) := by decide +kernel
theorem dX7_isAgainst_41 : decode cX7_isAgainst 41 = .ok (.lload 10, 2) := by decide +kernel
theorem dX7_isAgainst_43 : decode cX7_isAgainst 43 = .ok (.lmul, 1) := by decide +kernel
theorem dX7_isAgainst_44 : decode cX7_isAgainst 44 = .ok (.lconst 0, 1) := by decide +kernel
theorem dX7_isAgainst_45 : decode cX7_isAgainst 45 = .ok (.lcmp, 1) := by decide +kernel
theorem dX7_isAgainst_46 : decode cX7_isAgainst 46 = .ok (.ifCond .le 22, 3) := by decide +kernel
theorem dX7_isAgainst_49 : decode cX7_isAgainst 49 = .ok (.iload_n 1, 1) := by decide +kernel
theorem dX7_isAgainst_50 : decode cX7_isAgainst 50 = .ok (.iconst 4, 1) := by decide +kernel
theorem dX7_isAgainst_51 : decode cX7_isAgainst 51 = .ok (.if_icmp .lt 13, 3) := by decide +kernel
theorem dX7_isAgainst_54 : decode cX7_isAgainst 54 = .ok (.lload 8, 2) := by decide +kernel
theorem dX7_isAgainst_56 : decode cX7_isAgainst 56 = .ok (.lload 10, 2) := by decide +kernel
theorem dX7_isAgainst_58 : decode cX7_isAgainst 58 = .ok (.lmul, 1) := by decide +kernel
theorem dX7_isAgainst_59 : decode cX7_isAgainst 59 = .ok (.lconst 0, 1) := by decide +kernel
theorem dX7_isAgainst_60 : decode cX7_isAgainst 60 = .ok (.lcmp, 1) := by decide +kernel
theorem dX7_isAgainst_61 : decode cX7_isAgainst 61 = .ok (.ifCond .le 7, 3) := by decide +kernel
theorem dX7_isAgainst_64 : decode cX7_isAgainst 64 = .ok (.iconst 1, 1) := by decide +kernel
theorem dX7_isAgainst_65 : decode cX7_isAgainst 65 = .ok (.goto 4, 3) := by decide +kernel
theorem dX7_isAgainst_68 : decode cX7_isAgainst 68 = .ok (.iconst 0, 1) := by decide +kernel
theorem dX7_isAgainst_69 : decode cX7_isAgainst 69 = .ok (.istore 12, 2) := by decide +kernel
theorem dX7_isAgainst_71 : decode cX7_isAgainst 71 = .ok (.iload 12, 2) := by decide +kernel
theorem dX7_isAgainst_73 : decode cX7_isAgainst 73 = .ok (.ifCond .ne 5, 3) := by decide +kernel
theorem dX7_isAgainst_76 : decode cX7_isAgainst 76 = .ok (.iconst 0, 1) := by decide +kernel
theorem dX7_isAgainst_77 : decode cX7_isAgainst 77 = .ok (.ireturn, 1) := by decide +kernel
theorem dX7_isAgainst_78 : decode cX7_isAgainst 78 = .ok (.iconst 0, 1) := by decide +kernel
theorem dX7_isAgainst_79 : decode cX7_isAgainst 79 = .ok (.istore 13, 2) := by decide +kernel
theorem dX7_isAgainst_81 : decode cX7_isAgainst 81 = .ok (.iload 13, 2) := by decide +kernel
theorem dX7_isAgainst_83 : decode cX7_isAgainst 83 = .ok (.iconst 3, 1) := by decide +kernel
theorem dX7_isAgainst_84 : decode cX7_isAgainst 84 = .ok (.if_icmp .ge 30, 3) := by decide +kernel
theorem dX7_isAgainst_87 : decode cX7_isAgainst 87 = .ok (.aload_n 0, 1) := by decide +kernel
theorem dX7_isAgainst_88 : decode cX7_isAgainst 88 = .ok (.iload_n 1, 1) := by decide +kernel
theorem dX7_isAgainst_89 : decode cX7_isAgainst 89 = .ok (.iload 13, 2) := by decide +kernel
theorem dX7_isAgainst_91 : decode cX7_isAgainst 91 = .ok (.lload_n 2, 1) := by decide +kernel
theorem dX7_isAgainst_92 : decode cX7_isAgainst 92 = .ok (.lload 4, 2) := by decide +kernel
theorem dX7_isAgainst_94 : decode cX7_isAgainst 94 = .ok (.lload 6, 2) := by decide +kernel
theorem dX7_isAgainst_96 : decode cX7_isAgainst 96 = .ok (.lload 8, 2) := by decide +kernel
theorem dX7_isAgainst_98 : decode cX7_isAgainst 98 = .ok (.invokevirtual 159, 3) := by decide +kernel
theorem dX7_isAgainst_101 : decode cX7_isAgainst 101 = .ok (.lconst 0, 1) := by decide +kernel
theorem dX7_isAgainst_102 : decode cX7_isAgainst 102 = .ok (.lcmp, 1) := by decide +kernel
theorem dX7_isAgainst_103 : decode cX7_isAgainst 103 = .ok (.ifCond .eq 5, 3) := by decide +kernel
theorem dX7_isAgainst_106 : decode cX7_isAgainst 106 = .ok (.iconst 0, 1) := by decide +kernel
theorem dX7_isAgainst_107 : decode cX7_isAgainst 107 = .ok (.ireturn, 1) := by decide +kernel
theorem dX7_isAgainst_108 : decode cX7_isAgainst 108 = .ok (.iinc 13 1, 3) := by decide +kernel
theorem dX7_isAgainst_111 : decode cX7_isAgainst 111 = .ok (.goto (-30), 3) := by decide +kernel
theorem dX7_isAgainst_114 : decode cX7_isAgainst 114 = .ok (.aload_n 0, 1) := by decide +kernel
theorem dX7_isAgainst_115 : decode cX7_isAgainst 115 = .ok (.iload_n 1, 1) := by decide +kernel
theorem dX7_isAgainst_116 : decode cX7_isAgainst 116 = .ok (.iconst 4, 1) := by decide +kernel
theorem dX7_isAgainst_117 : decode cX7_isAgainst 117 = .ok (.lload_n 2, 1) := by decide +kernel
theorem dX7_isAgainst_118 : decode cX7_isAgainst 118 = .ok (.lload 4, 2) := by decide +kernel
theorem dX7_isAgainst_120 : decode cX7_isAgainst 120 = .ok (.lload 6, 2) := by decide +kernel
theorem dX7_isAgainst_122 : decode cX7_isAgainst 122 = .ok (.lload 8, 2) := by decide +kernel
theorem dX7_isAgainst_124 : decode cX7_isAgainst 124 = .ok (.invokevirtual 159, 3) := by decide +kernel
theorem dX7_isAgainst_127 : decode cX7_isAgainst 127 = .ok (.lload 10, 2) := by decide +kernel
theorem dX7_isAgainst_129 : decode cX7_isAgainst 129 = .ok (.lmul, 1) := by decide +kernel
theorem dX7_isAgainst_130 : decode cX7_isAgainst 130 = .ok (.lconst 0, 1) := by decide +kernel
theorem dX7_isAgainst_131 : decode cX7_isAgainst 131 = .ok (.lcmp, 1) := by decide +kernel
theorem dX7_isAgainst_132 : decode cX7_isAgainst 132 = .ok (.ifCond .le 7, 3) := by decide +kernel
theorem dX7_isAgainst_135 : decode cX7_isAgainst 135 = .ok (.iconst 1, 1) := by decide +kernel
theorem dX7_isAgainst_136 : decode cX7_isAgainst 136 = .ok (.goto 4, 3) := by decide +kernel
theorem dX7_isAgainst_139 : decode cX7_isAgainst 139 = .ok (.iconst 0, 1) := by decide +kernel
theorem dX7_isAgainst_140 : decode cX7_isAgainst 140 = .ok (.ireturn, 1) := by decide +kernel
theorem dX7_summed_0 : decode cX7_summed 0 = .ok (.aload_n 0, 1) := by decide +kernel
theorem dX7_summed_1 : decode cX7_summed 1 = .ok (.getfield 35, 3) := by decide +kernel
theorem dX7_summed_4 : decode cX7_summed 4 = .ok (.iconst 5, 1) := by decide +kernel
theorem dX7_summed_5 : decode cX7_summed 5 = .ok (.aload_n 0, 1) := by decide +kernel
theorem dX7_summed_6 : decode cX7_summed 6 = .ok (.getfield 45, 3) := by decide +kernel
theorem dX7_summed_9 : decode cX7_summed 9 = .ok (.iconst 0, 1) := by decide +kernel
theorem dX7_summed_10 : decode cX7_summed 10 = .ok (.iaload, 1) := by decide +kernel
theorem dX7_summed_11 : decode cX7_summed 11 = .ok (.imul, 1) := by decide +kernel
theorem dX7_summed_12 : decode cX7_summed 12 = .ok (.iload_n 2, 1) := by decide +kernel
theorem dX7_summed_13 : decode cX7_summed 13 = .ok (.iadd, 1) := by decide +kernel
theorem dX7_summed_14 : decode cX7_summed 14 = .ok (.laload, 1) := by decide +kernel
theorem dX7_summed_15 : decode cX7_summed 15 = .ok (.lload_n 3, 1) := by decide +kernel
theorem dX7_summed_16 : decode cX7_summed 16 = .ok (.lmul, 1) := by decide +kernel
theorem dX7_summed_17 : decode cX7_summed 17 = .ok (.aload_n 0, 1) := by decide +kernel
theorem dX7_summed_18 : decode cX7_summed 18 = .ok (.getfield 35, 3) := by decide +kernel
theorem dX7_summed_21 : decode cX7_summed 21 = .ok (.iconst 5, 1) := by decide +kernel
theorem dX7_summed_22 : decode cX7_summed 22 = .ok (.aload_n 0, 1) := by decide +kernel
theorem dX7_summed_23 : decode cX7_summed 23 = .ok (.getfield 45, 3) := by decide +kernel
theorem dX7_summed_26 : decode cX7_summed 26 = .ok (.iconst 1, 1) := by decide +kernel
theorem dX7_summed_27 : decode cX7_summed 27 = .ok (.iaload, 1) := by decide +kernel
theorem dX7_summed_28 : decode cX7_summed 28 = .ok (.imul, 1) := by decide +kernel
theorem dX7_summed_29 : decode cX7_summed 29 = .ok (.iload_n 2, 1) := by decide +kernel
theorem dX7_summed_30 : decode cX7_summed 30 = .ok (.iadd, 1) := by decide +kernel
theorem dX7_summed_31 : decode cX7_summed 31 = .ok (.laload, 1) := by decide +kernel
theorem dX7_summed_32 : decode cX7_summed 32 = .ok (.lload 5, 2) := by decide +kernel
theorem dX7_summed_34 : decode cX7_summed 34 = .ok (.lmul, 1) := by decide +kernel
theorem dX7_summed_35 : decode cX7_summed 35 = .ok (.ladd, 1) := by decide +kernel
theorem dX7_summed_36 : decode cX7_summed 36 = .ok (.lstore 11, 2) := by decide +kernel
theorem dX7_summed_38 : decode cX7_summed 38 = .ok (.lload 11, 2) := by decide +kernel
theorem dX7_summed_40 : decode cX7_summed 40 = .ok (.iload_n 1, 1) := by decide +kernel
theorem dX7_summed_41 : decode cX7_summed 41 = .ok (.iconst 2, 1) := by decide +kernel
theorem dX7_summed_42 : decode cX7_summed 42 = .ok (.if_icmp .le 24, 3) := by decide +kernel
theorem dX7_summed_45 : decode cX7_summed 45 = .ok (.aload_n 0, 1) := by decide +kernel
theorem dX7_summed_46 : decode cX7_summed 46 = .ok (.getfield 35, 3) := by decide +kernel
theorem dX7_summed_49 : decode cX7_summed 49 = .ok (.iconst 5, 1) := by decide +kernel
theorem dX7_summed_50 : decode cX7_summed 50 = .ok (.aload_n 0, 1) := by decide +kernel
theorem dX7_summed_51 : decode cX7_summed 51 = .ok (.getfield 45, 3) := by decide +kernel
theorem dX7_summed_54 : decode cX7_summed 54 = .ok (.iconst 2, 1) := by decide +kernel
theorem dX7_summed_55 : decode cX7_summed 55 = .ok (.iaload, 1) := by decide +kernel
theorem dX7_summed_56 : decode cX7_summed 56 = .ok (.imul, 1) := by decide +kernel
theorem dX7_summed_57 : decode cX7_summed 57 = .ok (.iload_n 2, 1) := by decide +kernel
theorem dX7_summed_58 : decode cX7_summed 58 = .ok (.iadd, 1) := by decide +kernel
theorem dX7_summed_59 : decode cX7_summed 59 = .ok (.laload, 1) := by decide +kernel
theorem dX7_summed_60 : decode cX7_summed 60 = .ok (.lload 7, 2) := by decide +kernel
theorem dX7_summed_62 : decode cX7_summed 62 = .ok (.lmul, 1) := by decide +kernel
theorem dX7_summed_63 : decode cX7_summed 63 = .ok (.goto 4, 3) := by decide +kernel
theorem dX7_summed_66 : decode cX7_summed 66 = .ok (.lconst 0, 1) := by decide +kernel
theorem dX7_summed_67 : decode cX7_summed 67 = .ok (.ladd, 1) := by decide +kernel
theorem dX7_summed_68 : decode cX7_summed 68 = .ok (.lstore 11, 2) := by decide +kernel
theorem dX7_summed_70 : decode cX7_summed 70 = .ok (.iload_n 1, 1) := by decide +kernel
theorem dX7_summed_71 : decode cX7_summed 71 = .ok (.iconst 3, 1) := by decide +kernel
theorem dX7_summed_72 : decode cX7_summed 72 = .ok (.if_icmp .le 27, 3) := by decide +kernel
theorem dX7_summed_75 : decode cX7_summed 75 = .ok (.lload 11, 2) := by decide +kernel
theorem dX7_summed_77 : decode cX7_summed 77 = .ok (.aload_n 0, 1) := by decide +kernel
theorem dX7_summed_78 : decode cX7_summed 78 = .ok (.getfield 35, 3) := by decide +kernel
theorem dX7_summed_81 : decode cX7_summed 81 = .ok (.iconst 5, 1) := by decide +kernel
theorem dX7_summed_82 : decode cX7_summed 82 = .ok (.aload_n 0, 1) := by decide +kernel
theorem dX7_summed_83 : decode cX7_summed 83 = .ok (.getfield 45, 3) := by decide +kernel
theorem dX7_summed_86 : decode cX7_summed 86 = .ok (.iconst 3, 1) := by decide +kernel
theorem dX7_summed_87 : decode cX7_summed 87 = .ok (.iaload, 1) := by decide +kernel
theorem dX7_summed_88 : decode cX7_summed 88 = .ok (.imul, 1) := by decide +kernel
theorem dX7_summed_89 : decode cX7_summed 89 = .ok (.iload_n 2, 1) := by decide +kernel
theorem dX7_summed_90 : decode cX7_summed 90 = .ok (.iadd, 1) := by decide +kernel
theorem dX7_summed_91 : decode cX7_summed 91 = .ok (.laload, 1) := by decide +kernel
theorem dX7_summed_92 : decode cX7_summed 92 = .ok (.lload 9, 2) := by decide +kernel
theorem dX7_summed_94 : decode cX7_summed 94 = .ok (.lmul, 1) := by decide +kernel
theorem dX7_summed_95 : decode cX7_summed 95 = .ok (.ladd, 1) := by decide +kernel
theorem dX7_summed_96 : decode cX7_summed 96 = .ok (.goto 5, 3) := by decide +kernel
theorem dX7_summed_99 : decode cX7_summed 99 = .ok (.lload 11, 2) := by decide +kernel
theorem dX7_summed_101 : decode cX7_summed 101 = .ok (.lreturn, 1) := by decide +kernel
theorem dX7_areTwo_0 : decode cX7_areTwo 0 = .ok (.iconst 0, 1) := by decide +kernel
theorem dX7_areTwo_1 : decode cX7_areTwo 1 = .ok (.istore_n 1, 1) := by decide +kernel
theorem dX7_areTwo_2 : decode cX7_areTwo 2 = .ok (.iload_n 1, 1) := by decide +kernel
theorem dX7_areTwo_3 : decode cX7_areTwo 3 = .ok (.iconst 3, 1) := by decide +kernel
theorem dX7_areTwo_4 : decode cX7_areTwo 4 = .ok (.if_icmp .ge 52, 3) := by decide +kernel
end
section
theorem dX7_areTwo_7 : decode cX7_areTwo 7 = .ok (.aload_n 0, 1) := by decide +kernel
theorem dX7_areTwo_8 : decode cX7_areTwo 8 = .ok (.iconst 2, 1) := by decide +kernel
theorem dX7_areTwo_9 : decode cX7_areTwo 9 = .ok (.aload_n 0, 1) := by decide +kernel
theorem dX7_areTwo_10 : decode cX7_areTwo 10 = .ok (.getfield 35, 3) := by decide +kernel
theorem dX7_areTwo_13 : decode cX7_areTwo 13 = .ok (.iconst 5, 1) := by decide +kernel
theorem dX7_areTwo_14 : decode cX7_areTwo 14 = .ok (.aload_n 0, 1) := by decide +kernel
theorem dX7_areTwo_15 : decode cX7_areTwo 15 = .ok (.getfield 45, 3) := by decide +kernel
theorem dX7_areTwo_18 : decode cX7_areTwo 18 = .ok (.iconst 1, 1) := by decide +kernel
theorem dX7_areTwo_19 : decode cX7_areTwo 19 = .ok (.iaload, 1) := by decide +kernel
theorem dX7_areTwo_20 : decode cX7_areTwo 20 = .ok (.imul, 1) := by decide +kernel
theorem dX7_areTwo_21 : decode cX7_areTwo 21 = .ok (.iload_n 1, 1) := by decide +kernel
theorem dX7_areTwo_22 : decode cX7_areTwo 22 = .ok (.iadd, 1) := by decide +kernel
theorem dX7_areTwo_23 : decode cX7_areTwo 23 = .ok (.laload, 1) := by decide +kernel
theorem dX7_areTwo_24 : decode cX7_areTwo 24 = .ok (.aload_n 0, 1) := by decide +kernel
theorem dX7_areTwo_25 : decode cX7_areTwo 25 = .ok (.getfield 35, 3) := by decide +kernel
theorem dX7_areTwo_28 : decode cX7_areTwo 28 = .ok (.iconst 5, 1) := by decide +kernel
theorem dX7_areTwo_29 : decode cX7_areTwo 29 = .ok (.aload_n 0, 1) := by decide +kernel
theorem dX7_areTwo_30 : decode cX7_areTwo 30 = .ok (.getfield 45, 3) := by decide +kernel
theorem dX7_areTwo_33 : decode cX7_areTwo 33 = .ok (.iconst 0, 1) := by decide +kernel
theorem dX7_areTwo_34 : decode cX7_areTwo 34 = .ok (.iaload, 1) := by decide +kernel
theorem dX7_areTwo_35 : decode cX7_areTwo 35 = .ok (.imul, 1) := by decide +kernel
theorem dX7_areTwo_36 : decode cX7_areTwo 36 = .ok (.iload_n 1, 1) := by decide +kernel
theorem dX7_areTwo_37 : decode cX7_areTwo 37 = .ok (.iadd, 1) := by decide +kernel
theorem dX7_areTwo_38 : decode cX7_areTwo 38 = .ok (.laload, 1) := by decide +kernel
theorem dX7_areTwo_39 : decode cX7_areTwo 39 = .ok (.lneg, 1) := by decide +kernel
theorem dX7_areTwo_40 : decode cX7_areTwo 40 = .ok (.lconst 0, 1) := by decide +kernel
theorem dX7_areTwo_41 : decode cX7_areTwo 41 = .ok (.lconst 0, 1) := by decide +kernel
theorem dX7_areTwo_42 : decode cX7_areTwo 42 = .ok (.invokevirtual 163, 3) := by decide +kernel
theorem dX7_areTwo_45 : decode cX7_areTwo 45 = .ok (.ifCond .eq 5, 3) := by decide +kernel
theorem dX7_areTwo_48 : decode cX7_areTwo 48 = .ok (.iconst 1, 1) := by decide +kernel
theorem dX7_areTwo_49 : decode cX7_areTwo 49 = .ok (.ireturn, 1) := by decide +kernel
theorem dX7_areTwo_50 : decode cX7_areTwo 50 = .ok (.iinc 1 1, 3) := by decide +kernel
theorem dX7_areTwo_53 : decode cX7_areTwo 53 = .ok (.goto (-51), 3) := by decide +kernel
theorem dX7_areTwo_56 : decode cX7_areTwo 56 = .ok (.iconst 0, 1) := by decide +kernel
theorem dX7_areTwo_57 : decode cX7_areTwo 57 = .ok (.ireturn, 1) := by decide +kernel
theorem dX7_areThree_0 : decode cX7_areThree 0 = .ok (.iconst 0, 1) := by decide +kernel
theorem dX7_areThree_1 : decode cX7_areThree 1 = .ok (.istore_n 1, 1) := by decide +kernel
theorem dX7_areThree_2 : decode cX7_areThree 2 = .ok (.iload_n 1, 1) := by decide +kernel
theorem dX7_areThree_3 : decode cX7_areThree 3 = .ok (.iconst 3, 1) := by decide +kernel
theorem dX7_areThree_4 : decode cX7_areThree 4 = .ok (.if_icmp .ge 95, 3) := by decide +kernel
theorem dX7_areThree_7 : decode cX7_areThree 7 = .ok (.iload_n 1, 1) := by decide +kernel
theorem dX7_areThree_8 : decode cX7_areThree 8 = .ok (.ifCond .ne 7, 3) := by decide +kernel
theorem dX7_areThree_11 : decode cX7_areThree 11 = .ok (.iconst 1, 1) := by decide +kernel
theorem dX7_areThree_12 : decode cX7_areThree 12 = .ok (.goto 4, 3) := by decide +kernel
theorem dX7_areThree_15 : decode cX7_areThree 15 = .ok (.iconst 0, 1) := by decide +kernel
theorem dX7_areThree_16 : decode cX7_areThree 16 = .ok (.istore_n 2, 1) := by decide +kernel
theorem dX7_areThree_17 : decode cX7_areThree 17 = .ok (.iload_n 1, 1) := by decide +kernel
theorem dX7_areThree_18 : decode cX7_areThree 18 = .ok (.iconst 2, 1) := by decide +kernel
theorem dX7_areThree_19 : decode cX7_areThree 19 = .ok (.if_icmp .ne 7, 3) := by decide +kernel
theorem dX7_areThree_22 : decode cX7_areThree 22 = .ok (.iconst 1, 1) := by decide +kernel
theorem dX7_areThree_23 : decode cX7_areThree 23 = .ok (.goto 4, 3) := by decide +kernel
theorem dX7_areThree_26 : decode cX7_areThree 26 = .ok (.iconst 2, 1) := by decide +kernel
theorem dX7_areThree_27 : decode cX7_areThree 27 = .ok (.istore_n 3, 1) := by decide +kernel
theorem dX7_areThree_28 : decode cX7_areThree 28 = .ok (.aload_n 0, 1) := by decide +kernel
theorem dX7_areThree_29 : decode cX7_areThree 29 = .ok (.iconst 3, 1) := by decide +kernel
theorem dX7_areThree_30 : decode cX7_areThree 30 = .ok (.aload_n 0, 1) := by decide +kernel
theorem dX7_areThree_31 : decode cX7_areThree 31 = .ok (.aload_n 0, 1) := by decide +kernel
theorem dX7_areThree_32 : decode cX7_areThree 32 = .ok (.getfield 45, 3) := by decide +kernel
theorem dX7_areThree_35 : decode cX7_areThree 35 = .ok (.iconst 1, 1) := by decide +kernel
theorem dX7_areThree_36 : decode cX7_areThree 36 = .ok (.iaload, 1) := by decide +kernel
theorem dX7_areThree_37 : decode cX7_areThree 37 = .ok (.aload_n 0, 1) := by decide +kernel
theorem dX7_areThree_38 : decode cX7_areThree 38 = .ok (.getfield 45, 3) := by decide +kernel
theorem dX7_areThree_41 : decode cX7_areThree 41 = .ok (.iconst 2, 1) := by decide +kernel
theorem dX7_areThree_42 : decode cX7_areThree 42 = .ok (.iaload, 1) := by decide +kernel
theorem dX7_areThree_43 : decode cX7_areThree 43 = .ok (.iload_n 2, 1) := by decide +kernel
theorem dX7_areThree_44 : decode cX7_areThree 44 = .ok (.iload_n 3, 1) := by decide +kernel
theorem dX7_areThree_45 : decode cX7_areThree 45 = .ok (.invokevirtual 167, 3) := by decide +kernel
theorem dX7_areThree_48 : decode cX7_areThree 48 = .ok (.aload_n 0, 1) := by decide +kernel
theorem dX7_areThree_49 : decode cX7_areThree 49 = .ok (.aload_n 0, 1) := by decide +kernel
theorem dX7_areThree_50 : decode cX7_areThree 50 = .ok (.getfield 45, 3) := by decide +kernel
theorem dX7_areThree_53 : decode cX7_areThree 53 = .ok (.iconst 2, 1) := by decide +kernel
theorem dX7_areThree_54 : decode cX7_areThree 54 = .ok (.iaload, 1) := by decide +kernel
theorem dX7_areThree_55 : decode cX7_areThree 55 = .ok (.aload_n 0, 1) := by decide +kernel
theorem dX7_areThree_56 : decode cX7_areThree 56 = .ok (.getfield 45, 3) := by decide +kernel
theorem dX7_areThree_59 : decode cX7_areThree 59 = .ok (.iconst 0, 1) := by decide +kernel
theorem dX7_areThree_60 : decode cX7_areThree 60 = .ok (.iaload, 1) := by decide +kernel
theorem dX7_areThree_61 : decode cX7_areThree 61 = .ok (.iload_n 2, 1) := by decide +kernel
theorem dX7_areThree_62 : decode cX7_areThree 62 = .ok (.iload_n 3, 1) := by decide +kernel
theorem dX7_areThree_63 : decode cX7_areThree 63 = .ok (.invokevirtual 167, 3) := by decide +kernel
theorem dX7_areThree_66 : decode cX7_areThree 66 = .ok (.aload_n 0, 1) := by decide +kernel
theorem dX7_areThree_67 : decode cX7_areThree 67 = .ok (.aload_n 0, 1) := by decide +kernel
theorem dX7_areThree_68 : decode cX7_areThree 68 = .ok (.getfield 45, 3) := by decide +kernel
theorem dX7_areThree_71 : decode cX7_areThree 71 = .ok (.iconst 0, 1) := by decide +kernel
theorem dX7_areThree_72 : decode cX7_areThree 72 = .ok (.iaload, 1) := by decide +kernel
theorem dX7_areThree_73 : decode cX7_areThree 73 = .ok (.aload_n 0, 1) := by decide +kernel
theorem dX7_areThree_74 : decode cX7_areThree 74 = .ok (.getfield 45, 3) := by decide +kernel
theorem dX7_areThree_77 : decode cX7_areThree 77 = .ok (.iconst 1, 1) := by decide +kernel
theorem dX7_areThree_78 : decode cX7_areThree 78 = .ok (.iaload, 1) := by decide +kernel
theorem dX7_areThree_79 : decode cX7_areThree 79 = .ok (.iload_n 2, 1) := by decide +kernel
theorem dX7_areThree_80 : decode cX7_areThree 80 = .ok (.iload_n 3, 1) := by decide +kernel
theorem dX7_areThree_81 : decode cX7_areThree 81 = .ok (.invokevirtual 167, 3) := by decide +kernel
theorem dX7_areThree_84 : decode cX7_areThree 84 = .ok (.lconst 0, 1) := by decide +kernel
theorem dX7_areThree_85 : decode cX7_areThree 85 = .ok (.invokevirtual 163, 3) := by decide +kernel
theorem dX7_areThree_88 : decode cX7_areThree 88 = .ok (.ifCond .eq 5, 3) := by decide +kernel
theorem dX7_areThree_91 : decode cX7_areThree 91 = .ok (.iconst 1, 1) := by decide +kernel
theorem dX7_areThree_92 : decode cX7_areThree 92 = .ok (.ireturn, 1) := by decide +kernel
theorem dX7_areThree_93 : decode cX7_areThree 93 = .ok (.iinc 1 1, 3) := by decide +kernel
theorem dX7_areThree_96 : decode cX7_areThree 96 = .ok (.goto (-94), 3) := by decide +kernel
theorem dX7_areThree_99 : decode cX7_areThree 99 = .ok (.iconst 0, 1) := by decide +kernel
theorem dX7_areThree_100 : decode cX7_areThree 100 = .ok (.ireturn, 1) := by decide +kernel
theorem dX7_areFour_0 : decode cX7_areFour 0 = .ok (.aload_n 0, 1) := by decide +kernel
theorem dX7_areFour_1 : decode cX7_areFour 1 = .ok (.aload_n 0, 1) := by decide +kernel
theorem dX7_areFour_2 : decode cX7_areFour 2 = .ok (.getfield 45, 3) := by decide +kernel
theorem dX7_areFour_5 : decode cX7_areFour 5 = .ok (.iconst 1, 1) := by decide +kernel
theorem dX7_areFour_6 : decode cX7_areFour 6 = .ok (.iaload, 1) := by decide +kernel
theorem dX7_areFour_7 : decode cX7_areFour 7 = .ok (.aload_n 0, 1) := by decide +kernel
theorem dX7_areFour_8 : decode cX7_areFour 8 = .ok (.getfield 45, 3) := by decide +kernel
theorem dX7_areFour_11 : decode cX7_areFour 11 = .ok (.iconst 2, 1) := by decide +kernel
theorem dX7_areFour_12 : decode cX7_areFour 12 = .ok (.iaload, 1) := by decide +kernel
theorem dX7_areFour_13 : decode cX7_areFour 13 = .ok (.aload_n 0, 1) := by decide +kernel
theorem dX7_areFour_14 : decode cX7_areFour 14 = .ok (.getfield 45, 3) := by decide +kernel
theorem dX7_areFour_17 : decode cX7_areFour 17 = .ok (.iconst 3, 1) := by decide +kernel
theorem dX7_areFour_18 : decode cX7_areFour 18 = .ok (.iaload, 1) := by decide +kernel
theorem dX7_areFour_19 : decode cX7_areFour 19 = .ok (.iconst 0, 1) := by decide +kernel
theorem dX7_areFour_20 : decode cX7_areFour 20 = .ok (.iconst 1, 1) := by decide +kernel
theorem dX7_areFour_21 : decode cX7_areFour 21 = .ok (.iconst 2, 1) := by decide +kernel
theorem dX7_areFour_22 : decode cX7_areFour 22 = .ok (.invokevirtual 95, 3) := by decide +kernel
theorem dX7_areFour_25 : decode cX7_areFour 25 = .ok (.lstore_n 1, 1) := by decide +kernel
theorem dX7_areFour_26 : decode cX7_areFour 26 = .ok (.aload_n 0, 1) := by decide +kernel
theorem dX7_areFour_27 : decode cX7_areFour 27 = .ok (.aload_n 0, 1) := by decide +kernel
theorem dX7_areFour_28 : decode cX7_areFour 28 = .ok (.getfield 45, 3) := by decide +kernel
theorem dX7_areFour_31 : decode cX7_areFour 31 = .ok (.iconst 0, 1) := by decide +kernel
theorem dX7_areFour_32 : decode cX7_areFour 32 = .ok (.iaload, 1) := by decide +kernel
theorem dX7_areFour_33 : decode cX7_areFour 33 = .ok (.aload_n 0, 1) := by decide +kernel
theorem dX7_areFour_34 : decode cX7_areFour 34 = .ok (.getfield 45, 3) := by decide +kernel
theorem dX7_areFour_37 : decode cX7_areFour 37 = .ok (.iconst 2, 1) := by decide +kernel
theorem dX7_areFour_38 : decode cX7_areFour 38 = .ok (.iaload, 1) := by decide +kernel
theorem dX7_areFour_39 : decode cX7_areFour 39 = .ok (.aload_n 0, 1) := by decide +kernel
theorem dX7_areFour_40 : decode cX7_areFour 40 = .ok (.getfield 45, 3) := by decide +kernel
theorem dX7_areFour_43 : decode cX7_areFour 43 = .ok (.iconst 3, 1) := by decide +kernel
theorem dX7_areFour_44 : decode cX7_areFour 44 = .ok (.iaload, 1) := by decide +kernel
theorem dX7_areFour_45 : decode cX7_areFour 45 = .ok (.iconst 0, 1) := by decide +kernel
theorem dX7_areFour_46 : decode cX7_areFour 46 = .ok (.iconst 1, 1) := by decide +kernel
theorem dX7_areFour_47 : decode cX7_areFour 47 = .ok (.iconst 2, 1) := by decide +kernel
theorem dX7_areFour_48 : decode cX7_areFour 48 = .ok (.invokevirtual 95, 3) := by decide +kernel
theorem dX7_areFour_51 : decode cX7_areFour 51 = .ok (.lneg, 1) := by decide +kernel
theorem dX7_areFour_52 : decode cX7_areFour 52 = .ok (.lstore_n 3, 1) := by decide +kernel
theorem dX7_areFour_53 : decode cX7_areFour 53 = .ok (.aload_n 0, 1) := by decide +kernel
theorem dX7_areFour_54 : decode cX7_areFour 54 = .ok (.aload_n 0, 1) := by decide +kernel
theorem dX7_areFour_55 : decode cX7_areFour 55 = .ok (.getfield 45, 3) := by decide +kernel
theorem dX7_areFour_58 : decode cX7_areFour 58 = .ok (.iconst 0, 1) := by decide +kernel
theorem dX7_areFour_59 : decode cX7_areFour 59 = .ok (.iaload, 1) := by decide +kernel
theorem dX7_areFour_60 : decode cX7_areFour 60 = .ok (.aload_n 0, 1) := by decide +kernel
theorem dX7_areFour_61 : decode cX7_areFour 61 = .ok (.getfield 45, 3) := by decide +kernel
theorem dX7_areFour_64 : decode cX7_areFour 64 = .ok (.iconst 1, 1) := by decide +kernel
theorem dX7_areFour_65 : decode cX7_areFour 65 = .ok (.iaload, 1) := by decide +kernel
theorem dX7_areFour_66 : decode cX7_areFour 66 = .ok (.aload_n 0, 1) := by decide +kernel
theorem dX7_areFour_67 : decode cX7_areFour 67 = .ok (.getfield 45, 3) := by decide +kernel
theorem dX7_areFour_70 : decode cX7_areFour 70 = .ok (.iconst 3, 1) := by decide +kernel
theorem dX7_areFour_71 : decode cX7_areFour 71 = .ok (.iaload, 1) := by decide +kernel
theorem dX7_areFour_72 : decode cX7_areFour 72 = .ok (.iconst 0, 1) := by decide +kernel
theorem dX7_areFour_73 : decode cX7_areFour 73 = .ok (.iconst 1, 1) := by decide +kernel
theorem dX7_areFour_74 : decode cX7_areFour 74 = .ok (.iconst 2, 1) := by decide +kernel
theorem dX7_areFour_75 : decode cX7_areFour 75 = .ok (.invokevirtual 95, 3) := by decide +kernel
theorem dX7_areFour_78 : decode cX7_areFour 78 = .ok (.lstore 5, 2) := by decide +kernel
theorem dX7_areFour_80 : decode cX7_areFour 80 = .ok (.aload_n 0, 1) := by decide +kernel
theorem dX7_areFour_81 : decode cX7_areFour 81 = .ok (.aload_n 0, 1) := by decide +kernel
theorem dX7_areFour_82 : decode cX7_areFour 82 = .ok (.getfield 45, 3) := by decide +kernel
theorem dX7_areFour_85 : decode cX7_areFour 85 = .ok (.iconst 0, 1) := by decide +kernel
theorem dX7_areFour_86 : decode cX7_areFour 86 = .ok (.iaload, 1) := by decide +kernel
theorem dX7_areFour_87 : decode cX7_areFour 87 = .ok (.aload_n 0, 1) := by decide +kernel
theorem dX7_areFour_88 : decode cX7_areFour 88 = .ok (.getfield 45, 3) := by decide +kernel
theorem dX7_areFour_91 : decode cX7_areFour 91 = .ok (.iconst 1, 1) := by decide +kernel
theorem dX7_areFour_92 : decode cX7_areFour 92 = .ok (.iaload, 1) := by decide +kernel
theorem dX7_areFour_93 : decode cX7_areFour 93 = .ok (.aload_n 0, 1) := by decide +kernel
theorem dX7_areFour_94 : decode cX7_areFour 94 = .ok (.getfield 45, 3) := by decide +kernel
theorem dX7_areFour_97 : decode cX7_areFour 97 = .ok (.iconst 2, 1) := by decide +kernel
theorem dX7_areFour_98 : decode cX7_areFour 98 = .ok (.iaload, 1) := by decide +kernel
theorem dX7_areFour_99 : decode cX7_areFour 99 = .ok (.iconst 0, 1) := by decide +kernel
theorem dX7_areFour_100 : decode cX7_areFour 100 = .ok (.iconst 1, 1) := by decide +kernel
theorem dX7_areFour_101 : decode cX7_areFour 101 = .ok (.iconst 2, 1) := by decide +kernel
theorem dX7_areFour_102 : decode cX7_areFour 102 = .ok (.invokevirtual 95, 3) := by decide +kernel
theorem dX7_areFour_105 : decode cX7_areFour 105 = .ok (.lneg, 1) := by decide +kernel
theorem dX7_areFour_106 : decode cX7_areFour 106 = .ok (.lstore 7, 2) := by decide +kernel
theorem dX7_areFour_108 : decode cX7_areFour 108 = .ok (.aload_n 0, 1) := by decide +kernel
theorem dX7_areFour_109 : decode cX7_areFour 109 = .ok (.iconst 4, 1) := by decide +kernel
theorem dX7_areFour_110 : decode cX7_areFour 110 = .ok (.lload_n 1, 1) := by decide +kernel
theorem dX7_areFour_111 : decode cX7_areFour 111 = .ok (.lload_n 3, 1) := by decide +kernel
theorem dX7_areFour_112 : decode cX7_areFour 112 = .ok (.lload 5, 2) := by decide +kernel
theorem dX7_areFour_114 : decode cX7_areFour 114 = .ok (.lload 7, 2) := by decide +kernel
theorem dX7_areFour_116 : decode cX7_areFour 116 = .ok (.invokevirtual 163, 3) := by decide +kernel
theorem dX7_areFour_119 : decode cX7_areFour 119 = .ok (.ireturn, 1) := by decide +kernel
theorem dX7_findBars_0 : decode cX7_findBars 0 = .ok (.aload_n 0, 1) := by decide +kernel
theorem dX7_findBars_1 : decode cX7_findBars 1 = .ok (.iconst 0, 1) := by decide +kernel
theorem dX7_findBars_2 : decode cX7_findBars 2 = .ok (.invokevirtual 110, 3) := by decide +kernel
theorem dX7_findBars_5 : decode cX7_findBars 5 = .ok (.aload_n 0, 1) := by decide +kernel
theorem dX7_findBars_6 : decode cX7_findBars 6 = .ok (.getfield 45, 3) := by decide +kernel
theorem dX7_findBars_9 : decode cX7_findBars 9 = .ok (.iconst 0, 1) := by decide +kernel
theorem dX7_findBars_10 : decode cX7_findBars 10 = .ok (.iconst 0, 1) := by decide +kernel
theorem dX7_findBars_11 : decode cX7_findBars 11 = .ok (.iastore, 1) := by decide +kernel
theorem dX7_findBars_12 : decode cX7_findBars 12 = .ok (.aload_n 0, 1) := by decide +kernel
theorem dX7_findBars_13 : decode cX7_findBars 13 = .ok (.getfield 45, 3) := by decide +kernel
theorem dX7_findBars_16 : decode cX7_findBars 16 = .ok (.iconst 0, 1) := by decide +kernel
theorem dX7_findBars_17 : decode cX7_findBars 17 = .ok (.iaload, 1) := by decide +kernel
theorem dX7_findBars_18 : decode cX7_findBars 18 = .ok (.aload_n 0, 1) := by decide +kernel
theorem dX7_findBars_19 : decode cX7_findBars 19 = .ok (.getfield 88, 3) := by decide +kernel
theorem dX7_findBars_22 : decode cX7_findBars 22 = .ok (.if_icmp .ge 65, 3) := by decide +kernel
theorem dX7_findBars_25 : decode cX7_findBars 25 = .ok (.aload_n 0, 1) := by decide +kernel
theorem dX7_findBars_26 : decode cX7_findBars 26 = .ok (.getfield 45, 3) := by decide +kernel
theorem dX7_findBars_29 : decode cX7_findBars 29 = .ok (.iconst 1, 1) := by decide +kernel
theorem dX7_findBars_30 : decode cX7_findBars 30 = .ok (.aload_n 0, 1) := by decide +kernel
theorem dX7_findBars_31 : decode cX7_findBars 31 = .ok (.getfield 45, 3) := by decide +kernel
theorem dX7_findBars_34 : decode cX7_findBars 34 = .ok (.iconst 0, 1) := by decide +kernel
theorem dX7_findBars_35 : decode cX7_findBars 35 = .ok (.iaload, 1) := by decide +kernel
theorem dX7_findBars_36 : decode cX7_findBars 36 = .ok (.iconst 1, 1) := by decide +kernel
theorem dX7_findBars_37 : decode cX7_findBars 37 = .ok (.iadd, 1) := by decide +kernel
theorem dX7_findBars_38 : decode cX7_findBars 38 = .ok (.iastore, 1) := by decide +kernel
theorem dX7_findBars_39 : decode cX7_findBars 39 = .ok (.aload_n 0, 1) := by decide +kernel
theorem dX7_findBars_40 : decode cX7_findBars 40 = .ok (.getfield 45, 3) := by decide +kernel
theorem dX7_findBars_43 : decode cX7_findBars 43 = .ok (.iconst 1, 1) := by decide +kernel
theorem dX7_findBars_44 : decode cX7_findBars 44 = .ok (.iaload, 1) := by decide +kernel
theorem dX7_findBars_45 : decode cX7_findBars 45 = .ok (.aload_n 0, 1) := by decide +kernel
theorem dX7_findBars_46 : decode cX7_findBars 46 = .ok (.getfield 88, 3) := by decide +kernel
theorem dX7_findBars_49 : decode cX7_findBars 49 = .ok (.if_icmp .ge 25, 3) := by decide +kernel
theorem dX7_findBars_52 : decode cX7_findBars 52 = .ok (.aload_n 0, 1) := by decide +kernel
theorem dX7_findBars_53 : decode cX7_findBars 53 = .ok (.invokevirtual 171, 3) := by decide +kernel
theorem dX7_findBars_56 : decode cX7_findBars 56 = .ok (.ifCond .eq 5, 3) := by decide +kernel
theorem dX7_findBars_59 : decode cX7_findBars 59 = .ok (.iconst 2, 1) := by decide +kernel
theorem dX7_findBars_60 : decode cX7_findBars 60 = .ok (.ireturn, 1) := by decide +kernel
theorem dX7_findBars_61 : decode cX7_findBars 61 = .ok (.aload_n 0, 1) := by decide +kernel
theorem dX7_findBars_62 : decode cX7_findBars 62 = .ok (.getfield 45, 3) := by decide +kernel
theorem dX7_findBars_65 : decode cX7_findBars 65 = .ok (.iconst 1, 1) := by decide +kernel
theorem dX7_findBars_66 : decode cX7_findBars 66 = .ok (.dup2, 1) := by decide +kernel
theorem dX7_findBars_67 : decode cX7_findBars 67 = .ok (.iaload, 1) := by decide +kernel
theorem dX7_findBars_68 : decode cX7_findBars 68 = .ok (.iconst 1, 1) := by decide +kernel
theorem dX7_findBars_69 : decode cX7_findBars 69 = .ok (.iadd, 1) := by decide +kernel
theorem dX7_findBars_70 : decode cX7_findBars 70 = .ok (.iastore, 1) := by decide +kernel
theorem dX7_findBars_71 : decode cX7_findBars 71 = .ok (.goto (-32), 3) := by decide +kernel
theorem dX7_findBars_74 : decode cX7_findBars 74 = .ok (.aload_n 0, 1) := by decide +kernel
theorem dX7_findBars_75 : decode cX7_findBars 75 = .ok (.getfield 45, 3) := by decide +kernel
theorem dX7_findBars_78 : decode cX7_findBars 78 = .ok (.iconst 0, 1) := by decide +kernel
theorem dX7_findBars_79 : decode cX7_findBars 79 = .ok (.dup2, 1) := by decide +kernel
theorem dX7_findBars_80 : decode cX7_findBars 80 = .ok (.iaload, 1) := by decide +kernel
theorem dX7_findBars_81 : decode cX7_findBars 81 = .ok (.iconst 1, 1) := by decide +kernel
theorem dX7_findBars_82 : decode cX7_findBars 82 = .ok (.iadd, 1) := by decide +kernel
theorem dX7_findBars_83 : decode cX7_findBars 83 = .ok (.iastore, 1) := by decide +kernel
theorem dX7_findBars_84 : decode cX7_findBars 84 = .ok (.goto (-72), 3) := by decide +kernel
theorem dX7_findBars_87 : decode cX7_findBars 87 = .ok (.aload_n 0, 1) := by decide +kernel
theorem dX7_findBars_88 : decode cX7_findBars 88 = .ok (.getfield 45, 3) := by decide +kernel
theorem dX7_findBars_91 : decode cX7_findBars 91 = .ok (.iconst 0, 1) := by decide +kernel
theorem dX7_findBars_92 : decode cX7_findBars 92 = .ok (.iconst 0, 1) := by decide +kernel
theorem dX7_findBars_93 : decode cX7_findBars 93 = .ok (.iastore, 1) := by decide +kernel
theorem dX7_findBars_94 : decode cX7_findBars 94 = .ok (.aload_n 0, 1) := by decide +kernel
theorem dX7_findBars_95 : decode cX7_findBars 95 = .ok (.getfield 45, 3) := by decide +kernel
theorem dX7_findBars_98 : decode cX7_findBars 98 = .ok (.iconst 0, 1) := by decide +kernel
theorem dX7_findBars_99 : decode cX7_findBars 99 = .ok (.iaload, 1) := by decide +kernel
theorem dX7_findBars_100 : decode cX7_findBars 100 = .ok (.aload_n 0, 1) := by decide +kernel
theorem dX7_findBars_101 : decode cX7_findBars 101 = .ok (.getfield 88, 3) := by decide +kernel
theorem dX7_findBars_104 : decode cX7_findBars 104 = .ok (.if_icmp .ge 105, 3) := by decide +kernel
theorem dX7_findBars_107 : decode cX7_findBars 107 = .ok (.aload_n 0, 1) := by decide +kernel
theorem dX7_findBars_108 : decode cX7_findBars 108 = .ok (.getfield 45, 3) := by decide +kernel
theorem dX7_findBars_111 : decode cX7_findBars 111 = .ok (.iconst 1, 1) := by decide +kernel
theorem dX7_findBars_112 : decode cX7_findBars 112 = .ok (.aload_n 0, 1) := by decide +kernel
theorem dX7_findBars_113 : decode cX7_findBars 113 = .ok (.getfield 45, 3) := by decide +kernel
theorem dX7_findBars_116 : decode cX7_findBars 116 = .ok (.iconst 0, 1) := by decide +kernel
theorem dX7_findBars_117 : decode cX7_findBars 117 = .ok (.iaload, 1) := by decide +kernel
theorem dX7_findBars_118 : decode cX7_findBars 118 = .ok (.iconst 1, 1) := by decide +kernel
theorem dX7_findBars_119 : decode cX7_findBars 119 = .ok (.iadd, 1) := by decide +kernel
theorem dX7_findBars_120 : decode cX7_findBars 120 = .ok (.iastore, 1) := by decide +kernel
theorem dX7_findBars_121 : decode cX7_findBars 121 = .ok (.aload_n 0, 1) := by decide +kernel
theorem dX7_findBars_122 : decode cX7_findBars 122 = .ok (.getfield 45, 3) := by decide +kernel
theorem dX7_findBars_125 : decode cX7_findBars 125 = .ok (.iconst 1, 1) := by decide +kernel
theorem dX7_findBars_126 : decode cX7_findBars 126 = .ok (.iaload, 1) := by decide +kernel
theorem dX7_findBars_127 : decode cX7_findBars 127 = .ok (.aload_n 0, 1) := by decide +kernel
theorem dX7_findBars_128 : decode cX7_findBars 128 = .ok (.getfield 88, 3) := by decide +kernel
theorem dX7_findBars_131 : decode cX7_findBars 131 = .ok (.if_icmp .ge 65, 3) := by decide +kernel
theorem dX7_findBars_134 : decode cX7_findBars 134 = .ok (.aload_n 0, 1) := by decide +kernel
theorem dX7_findBars_135 : decode cX7_findBars 135 = .ok (.getfield 45, 3) := by decide +kernel
theorem dX7_findBars_138 : decode cX7_findBars 138 = .ok (.iconst 2, 1) := by decide +kernel
theorem dX7_findBars_139 : decode cX7_findBars 139 = .ok (.aload_n 0, 1) := by decide +kernel
theorem dX7_findBars_140 : decode cX7_findBars 140 = .ok (.getfield 45, 3) := by decide +kernel
theorem dX7_findBars_143 : decode cX7_findBars 143 = .ok (.iconst 1, 1) := by decide +kernel
theorem dX7_findBars_144 : decode cX7_findBars 144 = .ok (.iaload, 1) := by decide +kernel
theorem dX7_findBars_145 : decode cX7_findBars 145 = .ok (.iconst 1, 1) := by decide +kernel
theorem dX7_findBars_146 : decode cX7_findBars 146 = .ok (.iadd, 1) := by decide +kernel
theorem dX7_findBars_147 : decode cX7_findBars 147 = .ok (.iastore, 1) := by decide +kernel
theorem dX7_findBars_148 : decode cX7_findBars 148 = .ok (.aload_n 0, 1) := by decide +kernel
theorem dX7_findBars_149 : decode cX7_findBars 149 = .ok (.getfield 45, 3) := by decide +kernel
theorem dX7_findBars_152 : decode cX7_findBars 152 = .ok (.iconst 2, 1) := by decide +kernel
theorem dX7_findBars_153 : decode cX7_findBars 153 = .ok (.iaload, 1) := by decide +kernel
theorem dX7_findBars_154 : decode cX7_findBars 154 = .ok (.aload_n 0, 1) := by decide +kernel
theorem dX7_findBars_155 : decode cX7_findBars 155 = .ok (.getfield 88, 3) := by decide +kernel
theorem dX7_findBars_158 : decode cX7_findBars 158 = .ok (.if_icmp .ge 25, 3) := by decide +kernel
theorem dX7_findBars_161 : decode cX7_findBars 161 = .ok (.aload_n 0, 1) := by decide +kernel
theorem dX7_findBars_162 : decode cX7_findBars 162 = .ok (.invokevirtual 174, 3) := by decide +kernel
theorem dX7_findBars_165 : decode cX7_findBars 165 = .ok (.ifCond .eq 5, 3) := by decide +kernel
theorem dX7_findBars_168 : decode cX7_findBars 168 = .ok (.iconst 3, 1) := by decide +kernel
theorem dX7_findBars_169 : decode cX7_findBars 169 = .ok (.ireturn, 1) := by decide +kernel
theorem dX7_findBars_170 : decode cX7_findBars 170 = .ok (.aload_n 0, 1) := by decide +kernel
theorem dX7_findBars_171 : decode cX7_findBars 171 = .ok (.getfield 45, 3) := by decide +kernel
theorem dX7_findBars_174 : decode cX7_findBars 174 = .ok (.iconst 2, 1) := by decide +kernel
theorem dX7_findBars_175 : decode cX7_findBars 175 = .ok (.dup2, 1) := by decide +kernel
theorem dX7_findBars_176 : decode cX7_findBars 176 = .ok (.iaload, 1) := by decide +kernel
theorem dX7_findBars_177 : decode cX7_findBars 177 = .ok (.iconst 1, 1) := by decide +kernel
theorem dX7_findBars_178 : decode cX7_findBars 178 = .ok (.iadd, 1) := by decide +kernel
theorem dX7_findBars_179 : decode cX7_findBars 179 = .ok (.iastore, 1) := by decide +kernel
theorem dX7_findBars_180 : decode cX7_findBars 180 = .ok (.goto (-32), 3) := by decide +kernel
theorem dX7_findBars_183 : decode cX7_findBars 183 = .ok (.aload_n 0, 1) := by decide +kernel
theorem dX7_findBars_184 : decode cX7_findBars 184 = .ok (.getfield 45, 3) := by decide +kernel
theorem dX7_findBars_187 : decode cX7_findBars 187 = .ok (.iconst 1, 1) := by decide +kernel
theorem dX7_findBars_188 : decode cX7_findBars 188 = .ok (.dup2, 1) := by decide +kernel
theorem dX7_findBars_189 : decode cX7_findBars 189 = .ok (.iaload, 1) := by decide +kernel
theorem dX7_findBars_190 : decode cX7_findBars 190 = .ok (.iconst 1, 1) := by decide +kernel
theorem dX7_findBars_191 : decode cX7_findBars 191 = .ok (.iadd, 1) := by decide +kernel
theorem dX7_findBars_192 : decode cX7_findBars 192 = .ok (.iastore, 1) := by decide +kernel
theorem dX7_findBars_193 : decode cX7_findBars 193 = .ok (.goto (-72), 3) := by decide +kernel
theorem dX7_findBars_196 : decode cX7_findBars 196 = .ok (.aload_n 0, 1) := by decide +kernel
theorem dX7_findBars_197 : decode cX7_findBars 197 = .ok (.getfield 45, 3) := by decide +kernel
theorem dX7_findBars_200 : decode cX7_findBars 200 = .ok (.iconst 0, 1) := by decide +kernel
theorem dX7_findBars_201 : decode cX7_findBars 201 = .ok (.dup2, 1) := by decide +kernel
theorem dX7_findBars_202 : decode cX7_findBars 202 = .ok (.iaload, 1) := by decide +kernel
theorem dX7_findBars_203 : decode cX7_findBars 203 = .ok (.iconst 1, 1) := by decide +kernel
theorem dX7_findBars_204 : decode cX7_findBars 204 = .ok (.iadd, 1) := by decide +kernel
theorem dX7_findBars_205 : decode cX7_findBars 205 = .ok (.iastore, 1) := by decide +kernel
theorem dX7_findBars_206 : decode cX7_findBars 206 = .ok (.goto (-112), 3) := by decide +kernel
theorem dX7_findBars_209 : decode cX7_findBars 209 = .ok (.aload_n 0, 1) := by decide +kernel
theorem dX7_findBars_210 : decode cX7_findBars 210 = .ok (.getfield 45, 3) := by decide +kernel
theorem dX7_findBars_213 : decode cX7_findBars 213 = .ok (.iconst 0, 1) := by decide +kernel
theorem dX7_findBars_214 : decode cX7_findBars 214 = .ok (.iconst 0, 1) := by decide +kernel
theorem dX7_findBars_215 : decode cX7_findBars 215 = .ok (.iastore, 1) := by decide +kernel
theorem dX7_findBars_216 : decode cX7_findBars 216 = .ok (.aload_n 0, 1) := by decide +kernel
theorem dX7_findBars_217 : decode cX7_findBars 217 = .ok (.getfield 45, 3) := by decide +kernel
theorem dX7_findBars_220 : decode cX7_findBars 220 = .ok (.iconst 0, 1) := by decide +kernel
theorem dX7_findBars_221 : decode cX7_findBars 221 = .ok (.iaload, 1) := by decide +kernel
theorem dX7_findBars_222 : decode cX7_findBars 222 = .ok (.aload_n 0, 1) := by decide +kernel
theorem dX7_findBars_223 : decode cX7_findBars 223 = .ok (.getfield 88, 3) := by decide +kernel
theorem dX7_findBars_226 : decode cX7_findBars 226 = .ok (.if_icmp .ge 145, 3) := by decide +kernel
theorem dX7_findBars_229 : decode cX7_findBars 229 = .ok (.aload_n 0, 1) := by decide +kernel
theorem dX7_findBars_230 : decode cX7_findBars 230 = .ok (.getfield 45, 3) := by decide +kernel
theorem dX7_findBars_233 : decode cX7_findBars 233 = .ok (.iconst 1, 1) := by decide +kernel
theorem dX7_findBars_234 : decode cX7_findBars 234 = .ok (.aload_n 0, 1) := by decide +kernel
theorem dX7_findBars_235 : decode cX7_findBars 235 = .ok (.getfield 45, 3) := by decide +kernel
theorem dX7_findBars_238 : decode cX7_findBars 238 = .ok (.iconst 0, 1) := by decide +kernel
theorem dX7_findBars_239 : decode cX7_findBars 239 = .ok (.iaload, 1) := by decide +kernel
theorem dX7_findBars_240 : decode cX7_findBars 240 = .ok (.iconst 1, 1) := by decide +kernel
theorem dX7_findBars_241 : decode cX7_findBars 241 = .ok (.iadd, 1) := by decide +kernel
theorem dX7_findBars_242 : decode cX7_findBars 242 = .ok (.iastore, 1) := by decide +kernel
theorem dX7_findBars_243 : decode cX7_findBars 243 = .ok (.aload_n 0, 1) := by decide +kernel
theorem dX7_findBars_244 : decode cX7_findBars 244 = .ok (.getfield 45, 3) := by decide +kernel
theorem dX7_findBars_247 : decode cX7_findBars 247 = .ok (.iconst 1, 1) := by decide +kernel
theorem dX7_findBars_248 : decode cX7_findBars 248 = .ok (.iaload, 1) := by decide +kernel
theorem dX7_findBars_249 : decode cX7_findBars 249 = .ok (.aload_n 0, 1) := by decide +kernel
theorem dX7_findBars_250 : decode cX7_findBars 250 = .ok (.getfield 88, 3) := by decide +kernel
theorem dX7_findBars_253 : decode cX7_findBars 253 = .ok (.if_icmp .ge 105, 3) := by decide +kernel
theorem dX7_findBars_256 : decode cX7_findBars 256 = .ok (.aload_n 0, 1) := by decide +kernel
theorem dX7_findBars_257 : decode cX7_findBars 257 = .ok (.getfield 45, 3) := by decide +kernel
theorem dX7_findBars_260 : decode cX7_findBars 260 = .ok (.iconst 2, 1) := by decide +kernel
theorem dX7_findBars_261 : decode cX7_findBars 261 = .ok (.aload_n 0, 1) := by decide +kernel
theorem dX7_findBars_262 : decode cX7_findBars 262 = .ok (.getfield 45, 3) := by decide +kernel
theorem dX7_findBars_265 : decode cX7_findBars 265 = .ok (.iconst 1, 1) := by decide +kernel
theorem dX7_findBars_266 : decode cX7_findBars 266 = .ok (.iaload, 1) := by decide +kernel
theorem dX7_findBars_267 : decode cX7_findBars 267 = .ok (.iconst 1, 1) := by decide +kernel
theorem dX7_findBars_268 : decode cX7_findBars 268 = .ok (.iadd, 1) := by decide +kernel
theorem dX7_findBars_269 : decode cX7_findBars 269 = .ok (.iastore, 1) := by decide +kernel
theorem dX7_findBars_270 : decode cX7_findBars 270 = .ok (.aload_n 0, 1) := by decide +kernel
theorem dX7_findBars_271 : decode cX7_findBars 271 = .ok (.getfield 45, 3) := by decide +kernel
theorem dX7_findBars_274 : decode cX7_findBars 274 = .ok (.iconst 2, 1) := by decide +kernel
theorem dX7_findBars_275 : decode cX7_findBars 275 = .ok (.iaload, 1) := by decide +kernel
theorem dX7_findBars_276 : decode cX7_findBars 276 = .ok (.aload_n 0, 1) := by decide +kernel
theorem dX7_findBars_277 : decode cX7_findBars 277 = .ok (.getfield 88, 3) := by decide +kernel
theorem dX7_findBars_280 : decode cX7_findBars 280 = .ok (.if_icmp .ge 65, 3) := by decide +kernel
theorem dX7_findBars_283 : decode cX7_findBars 283 = .ok (.aload_n 0, 1) := by decide +kernel
theorem dX7_findBars_284 : decode cX7_findBars 284 = .ok (.getfield 45, 3) := by decide +kernel
theorem dX7_findBars_287 : decode cX7_findBars 287 = .ok (.iconst 3, 1) := by decide +kernel
theorem dX7_findBars_288 : decode cX7_findBars 288 = .ok (.aload_n 0, 1) := by decide +kernel
theorem dX7_findBars_289 : decode cX7_findBars 289 = .ok (.getfield 45, 3) := by decide +kernel
theorem dX7_findBars_292 : decode cX7_findBars 292 = .ok (.iconst 2, 1) := by decide +kernel
theorem dX7_findBars_293 : decode cX7_findBars 293 = .ok (.iaload, 1) := by decide +kernel
theorem dX7_findBars_294 : decode cX7_findBars 294 = .ok (.iconst 1, 1) := by decide +kernel
theorem dX7_findBars_295 : decode cX7_findBars 295 = .ok (.iadd, 1) := by decide +kernel
theorem dX7_findBars_296 : decode cX7_findBars 296 = .ok (.iastore, 1) := by decide +kernel
theorem dX7_findBars_297 : decode cX7_findBars 297 = .ok (.aload_n 0, 1) := by decide +kernel
theorem dX7_findBars_298 : decode cX7_findBars 298 = .ok (.getfield 45, 3) := by decide +kernel
theorem dX7_findBars_301 : decode cX7_findBars 301 = .ok (.iconst 3, 1) := by decide +kernel
theorem dX7_findBars_302 : decode cX7_findBars 302 = .ok (.iaload, 1) := by decide +kernel
theorem dX7_findBars_303 : decode cX7_findBars 303 = .ok (.aload_n 0, 1) := by decide +kernel
theorem dX7_findBars_304 : decode cX7_findBars 304 = .ok (.getfield 88, 3) := by decide +kernel
theorem dX7_findBars_307 : decode cX7_findBars 307 = .ok (.if_icmp .ge 25, 3) := by decide +kernel
theorem dX7_findBars_310 : decode cX7_findBars 310 = .ok (.aload_n 0, 1) := by decide +kernel
theorem dX7_findBars_311 : decode cX7_findBars 311 = .ok (.invokevirtual 177, 3) := by decide +kernel
theorem dX7_findBars_314 : decode cX7_findBars 314 = .ok (.ifCond .eq 5, 3) := by decide +kernel
theorem dX7_findBars_317 : decode cX7_findBars 317 = .ok (.iconst 4, 1) := by decide +kernel
theorem dX7_findBars_318 : decode cX7_findBars 318 = .ok (.ireturn, 1) := by decide +kernel
theorem dX7_findBars_319 : decode cX7_findBars 319 = .ok (.aload_n 0, 1) := by decide +kernel
theorem dX7_findBars_320 : decode cX7_findBars 320 = .ok (.getfield 45, 3) := by decide +kernel
theorem dX7_findBars_323 : decode cX7_findBars 323 = .ok (.iconst 3, 1) := by decide +kernel
theorem dX7_findBars_324 : decode cX7_findBars 324 = .ok (.dup2, 1) := by decide +kernel
theorem dX7_findBars_325 : decode cX7_findBars 325 = .ok (.iaload, 1) := by decide +kernel
theorem dX7_findBars_326 : decode cX7_findBars 326 = .ok (.iconst 1, 1) := by decide +kernel
theorem dX7_findBars_327 : decode cX7_findBars 327 = .ok (.iadd, 1) := by decide +kernel
theorem dX7_findBars_328 : decode cX7_findBars 328 = .ok (.iastore, 1) := by decide +kernel
theorem dX7_findBars_329 : decode cX7_findBars 329 = .ok (.goto (-32), 3) := by decide +kernel
theorem dX7_findBars_332 : decode cX7_findBars 332 = .ok (.aload_n 0, 1) := by decide +kernel
theorem dX7_findBars_333 : decode cX7_findBars 333 = .ok (.getfield 45, 3) := by decide +kernel
theorem dX7_findBars_336 : decode cX7_findBars 336 = .ok (.iconst 2, 1) := by decide +kernel
theorem dX7_findBars_337 : decode cX7_findBars 337 = .ok (.dup2, 1) := by decide +kernel
theorem dX7_findBars_338 : decode cX7_findBars 338 = .ok (.iaload, 1) := by decide +kernel
theorem dX7_findBars_339 : decode cX7_findBars 339 = .ok (.iconst 1, 1) := by decide +kernel
theorem dX7_findBars_340 : decode cX7_findBars 340 = .ok (.iadd, 1) := by decide +kernel
theorem dX7_findBars_341 : decode cX7_findBars 341 = .ok (.iastore, 1) := by decide +kernel
theorem dX7_findBars_342 : decode cX7_findBars 342 = .ok (.goto (-72), 3) := by decide +kernel
theorem dX7_findBars_345 : decode cX7_findBars 345 = .ok (.aload_n 0, 1) := by decide +kernel
theorem dX7_findBars_346 : decode cX7_findBars 346 = .ok (.getfield 45, 3) := by decide +kernel
theorem dX7_findBars_349 : decode cX7_findBars 349 = .ok (.iconst 1, 1) := by decide +kernel
theorem dX7_findBars_350 : decode cX7_findBars 350 = .ok (.dup2, 1) := by decide +kernel
theorem dX7_findBars_351 : decode cX7_findBars 351 = .ok (.iaload, 1) := by decide +kernel
theorem dX7_findBars_352 : decode cX7_findBars 352 = .ok (.iconst 1, 1) := by decide +kernel
theorem dX7_findBars_353 : decode cX7_findBars 353 = .ok (.iadd, 1) := by decide +kernel
theorem dX7_findBars_354 : decode cX7_findBars 354 = .ok (.iastore, 1) := by decide +kernel
theorem dX7_findBars_355 : decode cX7_findBars 355 = .ok (.goto (-112), 3) := by decide +kernel
theorem dX7_findBars_358 : decode cX7_findBars 358 = .ok (.aload_n 0, 1) := by decide +kernel
theorem dX7_findBars_359 : decode cX7_findBars 359 = .ok (.getfield 45, 3) := by decide +kernel
theorem dX7_findBars_362 : decode cX7_findBars 362 = .ok (.iconst 0, 1) := by decide +kernel
theorem dX7_findBars_363 : decode cX7_findBars 363 = .ok (.dup2, 1) := by decide +kernel
theorem dX7_findBars_364 : decode cX7_findBars 364 = .ok (.iaload, 1) := by decide +kernel
theorem dX7_findBars_365 : decode cX7_findBars 365 = .ok (.iconst 1, 1) := by decide +kernel
theorem dX7_findBars_366 : decode cX7_findBars 366 = .ok (.iadd, 1) := by decide +kernel
theorem dX7_findBars_367 : decode cX7_findBars 367 = .ok (.iastore, 1) := by decide +kernel
theorem dX7_findBars_368 : decode cX7_findBars 368 = .ok (.goto (-152), 3) := by decide +kernel
theorem dX7_findBars_371 : decode cX7_findBars 371 = .ok (.iconst 0, 1) := by decide +kernel
theorem dX7_findBars_372 : decode cX7_findBars 372 = .ok (.ireturn, 1) := by decide +kernel
theorem dX7_bar_0 : decode cX7_bar 0 = .ok (.iload_n 1, 1) := by decide +kernel
theorem dX7_bar_1 : decode cX7_bar 1 = .ok (.i2l, 1) := by decide +kernel
theorem dX7_bar_2 : decode cX7_bar 2 = .ok (.ldc2_w 144, 3) := by decide +kernel
theorem dX7_bar_5 : decode cX7_bar 5 = .ok (.ldc2_w 69, 3) := by decide +kernel
theorem dX7_bar_8 : decode cX7_bar 8 = .ok (.invokestatic 59, 3) := by decide +kernel
theorem dX7_bar_11 : decode cX7_bar 11 = .ok (.ifCond .ne 5, 3) := by decide +kernel
theorem dX7_bar_14 : decode cX7_bar 14 = .ok (.iconst (-1), 1) := by decide +kernel
theorem dX7_bar_15 : decode cX7_bar 15 = .ok (.ireturn, 1) := by decide +kernel
theorem dX7_bar_16 : decode cX7_bar 16 = .ok (.aload_n 0, 1) := by decide +kernel
theorem dX7_bar_17 : decode cX7_bar 17 = .ok (.invokevirtual 141, 3) := by decide +kernel
theorem dX7_bar_20 : decode cX7_bar 20 = .ok (.aload_n 0, 1) := by decide +kernel
theorem dX7_bar_21 : decode cX7_bar 21 = .ok (.getfield 114, 3) := by decide +kernel
theorem dX7_bar_24 : decode cX7_bar 24 = .ok (.ifCond .eq 6, 3) := by decide +kernel
theorem dX7_bar_27 : decode cX7_bar 27 = .ok (.bipush (-2), 2) := by decide +kernel
theorem dX7_bar_29 : decode cX7_bar 29 = .ok (.ireturn, 1) := by decide +kernel
theorem dX7_bar_30 : decode cX7_bar 30 = .ok (.aload_n 0, 1) := by decide +kernel
theorem dX7_bar_31 : decode cX7_bar 31 = .ok (.aload_n 0, 1) := by decide +kernel
theorem dX7_bar_32 : decode cX7_bar 32 = .ok (.invokevirtual 180, 3) := by decide +kernel
theorem dX7_bar_35 : decode cX7_bar 35 = .ok (.putfield 184, 3) := by decide +kernel
theorem dX7_bar_38 : decode cX7_bar 38 = .ok (.iload_n 1, 1) := by decide +kernel
theorem dX7_bar_39 : decode cX7_bar 39 = .ok (.aload_n 0, 1) := by decide +kernel
theorem dX7_bar_40 : decode cX7_bar 40 = .ok (.getfield 184, 3) := by decide +kernel
theorem dX7_bar_43 : decode cX7_bar 43 = .ok (.if_icmp .lt 5, 3) := by decide +kernel
theorem dX7_bar_46 : decode cX7_bar 46 = .ok (.iconst (-1), 1) := by decide +kernel
theorem dX7_bar_47 : decode cX7_bar 47 = .ok (.ireturn, 1) := by decide +kernel
theorem dX7_bar_48 : decode cX7_bar 48 = .ok (.iload_n 1, 1) := by decide +kernel
theorem dX7_bar_49 : decode cX7_bar 49 = .ok (.ifCond .ge 10, 3) := by decide +kernel
theorem dX7_bar_52 : decode cX7_bar 52 = .ok (.aload_n 0, 1) := by decide +kernel
theorem dX7_bar_53 : decode cX7_bar 53 = .ok (.getfield 184, 3) := by decide +kernel
theorem dX7_bar_56 : decode cX7_bar 56 = .ok (.goto 31, 3) := by decide +kernel
theorem dX7_bar_59 : decode cX7_bar 59 = .ok (.aload_n 0, 1) := by decide +kernel
theorem dX7_bar_60 : decode cX7_bar 60 = .ok (.getfield 45, 3) := by decide +kernel
theorem dX7_bar_63 : decode cX7_bar 63 = .ok (.iload_n 1, 1) := by decide +kernel
theorem dX7_bar_64 : decode cX7_bar 64 = .ok (.iaload, 1) := by decide +kernel
theorem dX7_bar_65 : decode cX7_bar 65 = .ok (.iconst 2, 1) := by decide +kernel
theorem dX7_bar_66 : decode cX7_bar 66 = .ok (.aload_n 0, 1) := by decide +kernel
theorem dX7_bar_67 : decode cX7_bar 67 = .ok (.getfield 7, 3) := by decide +kernel
theorem dX7_bar_70 : decode cX7_bar 70 = .ok (.imul, 1) := by decide +kernel
theorem dX7_bar_71 : decode cX7_bar 71 = .ok (.iconst 2, 1) := by decide +kernel
theorem dX7_bar_72 : decode cX7_bar 72 = .ok (.iadd, 1) := by decide +kernel
theorem dX7_bar_73 : decode cX7_bar 73 = .ok (.if_icmp .ne 8, 3) := by decide +kernel
theorem dX7_bar_76 : decode cX7_bar 76 = .ok (.bipush 14, 2) := by decide +kernel
theorem dX7_bar_78 : decode cX7_bar 78 = .ok (.goto 9, 3) := by decide +kernel
theorem dX7_bar_81 : decode cX7_bar 81 = .ok (.aload_n 0, 1) := by decide +kernel
theorem dX7_bar_82 : decode cX7_bar 82 = .ok (.getfield 45, 3) := by decide +kernel
theorem dX7_bar_85 : decode cX7_bar 85 = .ok (.iload_n 1, 1) := by decide +kernel
theorem dX7_bar_86 : decode cX7_bar 86 = .ok (.iaload, 1) := by decide +kernel
theorem dX7_bar_87 : decode cX7_bar 87 = .ok (.ireturn, 1) := by decide +kernel
theorem dX7_four_0 : decode cX7_four 0 = .ok (.aload_n 0, 1) := by decide +kernel
theorem dX7_four_1 : decode cX7_four 1 = .ok (.getfield 35, 3) := by decide +kernel
theorem dX7_four_4 : decode cX7_four 4 = .ok (.iconst 5, 1) := by decide +kernel
theorem dX7_four_5 : decode cX7_four 5 = .ok (.iload_n 1, 1) := by decide +kernel
theorem dX7_four_6 : decode cX7_four 6 = .ok (.imul, 1) := by decide +kernel
theorem dX7_four_7 : decode cX7_four 7 = .ok (.iload 5, 2) := by decide +kernel
theorem dX7_four_9 : decode cX7_four 9 = .ok (.iadd, 1) := by decide +kernel
theorem dX7_four_10 : decode cX7_four 10 = .ok (.laload, 1) := by decide +kernel
theorem dX7_four_11 : decode cX7_four 11 = .ok (.aload_n 0, 1) := by decide +kernel
theorem dX7_four_12 : decode cX7_four 12 = .ok (.iload_n 2, 1) := by decide +kernel
theorem dX7_four_13 : decode cX7_four 13 = .ok (.iload_n 3, 1) := by decide +kernel
theorem dX7_four_14 : decode cX7_four 14 = .ok (.iload 4, 2) := by decide +kernel
theorem dX7_four_16 : decode cX7_four 16 = .ok (.iload 6, 2) := by decide +kernel
theorem dX7_four_18 : decode cX7_four 18 = .ok (.iload 7, 2) := by decide +kernel
theorem dX7_four_20 : decode cX7_four 20 = .ok (.iload 8, 2) := by decide +kernel
theorem dX7_four_22 : decode cX7_four 22 = .ok (.invokevirtual 95, 3) := by decide +kernel
theorem dX7_four_25 : decode cX7_four 25 = .ok (.lmul, 1) := by decide +kernel
theorem dX7_four_26 : decode cX7_four 26 = .ok (.aload_n 0, 1) := by decide +kernel
theorem dX7_four_27 : decode cX7_four 27 = .ok (.getfield 35, 3) := by decide +kernel
theorem dX7_four_30 : decode cX7_four 30 = .ok (.iconst 5, 1) := by decide +kernel
theorem dX7_four_31 : decode cX7_four 31 = .ok (.iload_n 2, 1) := by decide +kernel
theorem dX7_four_32 : decode cX7_four 32 = .ok (.imul, 1) := by decide +kernel
theorem dX7_four_33 : decode cX7_four 33 = .ok (.iload 5, 2) := by decide +kernel
theorem dX7_four_35 : decode cX7_four 35 = .ok (.iadd, 1) := by decide +kernel
theorem dX7_four_36 : decode cX7_four 36 = .ok (.laload, 1) := by decide +kernel
theorem dX7_four_37 : decode cX7_four 37 = .ok (.aload_n 0, 1) := by decide +kernel
theorem dX7_four_38 : decode cX7_four 38 = .ok (.iload_n 1, 1) := by decide +kernel
theorem dX7_four_39 : decode cX7_four 39 = .ok (.iload_n 3, 1) := by decide +kernel
theorem dX7_four_40 : decode cX7_four 40 = .ok (.iload 4, 2) := by decide +kernel
theorem dX7_four_42 : decode cX7_four 42 = .ok (.iload 6, 2) := by decide +kernel
theorem dX7_four_44 : decode cX7_four 44 = .ok (.iload 7, 2) := by decide +kernel
theorem dX7_four_46 : decode cX7_four 46 = .ok (.iload 8, 2) := by decide +kernel
theorem dX7_four_48 : decode cX7_four 48 = .ok (.invokevirtual 95, 3) := by decide +kernel
theorem dX7_four_51 : decode cX7_four 51 = .ok (.lmul, 1) := by decide +kernel
theorem dX7_four_52 : decode cX7_four 52 = .ok (.lsub, 1) := by decide +kernel
theorem dX7_four_53 : decode cX7_four 53 = .ok (.aload_n 0, 1) := by decide +kernel
theorem dX7_four_54 : decode cX7_four 54 = .ok (.getfield 35, 3) := by decide +kernel
theorem dX7_four_57 : decode cX7_four 57 = .ok (.iconst 5, 1) := by decide +kernel
theorem dX7_four_58 : decode cX7_four 58 = .ok (.iload_n 3, 1) := by decide +kernel
theorem dX7_four_59 : decode cX7_four 59 = .ok (.imul, 1) := by decide +kernel
theorem dX7_four_60 : decode cX7_four 60 = .ok (.iload 5, 2) := by decide +kernel
theorem dX7_four_62 : decode cX7_four 62 = .ok (.iadd, 1) := by decide +kernel
theorem dX7_four_63 : decode cX7_four 63 = .ok (.laload, 1) := by decide +kernel
theorem dX7_four_64 : decode cX7_four 64 = .ok (.aload_n 0, 1) := by decide +kernel
theorem dX7_four_65 : decode cX7_four 65 = .ok (.iload_n 1, 1) := by decide +kernel
theorem dX7_four_66 : decode cX7_four 66 = .ok (.iload_n 2, 1) := by decide +kernel
theorem dX7_four_67 : decode cX7_four 67 = .ok (.iload 4, 2) := by decide +kernel
theorem dX7_four_69 : decode cX7_four 69 = .ok (.iload 6, 2) := by decide +kernel
theorem dX7_four_71 : decode cX7_four 71 = .ok (.iload 7, 2) := by decide +kernel
theorem dX7_four_73 : decode cX7_four 73 = .ok (.iload 8, 2) := by decide +kernel
theorem dX7_four_75 : decode cX7_four 75 = .ok (.invokevirtual 95, 3) := by decide +kernel
theorem dX7_four_78 : decode cX7_four 78 = .ok (.lmul, 1) := by decide +kernel
theorem dX7_four_79 : decode cX7_four 79 = .ok (.ladd, 1) := by decide +kernel
theorem dX7_four_80 : decode cX7_four 80 = .ok (.aload_n 0, 1) := by decide +kernel
theorem dX7_four_81 : decode cX7_four 81 = .ok (.getfield 35, 3) := by decide +kernel
theorem dX7_four_84 : decode cX7_four 84 = .ok (.iconst 5, 1) := by decide +kernel
theorem dX7_four_85 : decode cX7_four 85 = .ok (.iload 4, 2) := by decide +kernel
theorem dX7_four_87 : decode cX7_four 87 = .ok (.imul, 1) := by decide +kernel
theorem dX7_four_88 : decode cX7_four 88 = .ok (.iload 5, 2) := by decide +kernel
theorem dX7_four_90 : decode cX7_four 90 = .ok (.iadd, 1) := by decide +kernel
theorem dX7_four_91 : decode cX7_four 91 = .ok (.laload, 1) := by decide +kernel
theorem dX7_four_92 : decode cX7_four 92 = .ok (.aload_n 0, 1) := by decide +kernel
theorem dX7_four_93 : decode cX7_four 93 = .ok (.iload_n 1, 1) := by decide +kernel
theorem dX7_four_94 : decode cX7_four 94 = .ok (.iload_n 2, 1) := by decide +kernel
theorem dX7_four_95 : decode cX7_four 95 = .ok (.iload_n 3, 1) := by decide +kernel
theorem dX7_four_96 : decode cX7_four 96 = .ok (.iload 6, 2) := by decide +kernel
theorem dX7_four_98 : decode cX7_four 98 = .ok (.iload 7, 2) := by decide +kernel
theorem dX7_four_100 : decode cX7_four 100 = .ok (.iload 8, 2) := by decide +kernel
theorem dX7_four_102 : decode cX7_four 102 = .ok (.invokevirtual 95, 3) := by decide +kernel
theorem dX7_four_105 : decode cX7_four 105 = .ok (.lmul, 1) := by decide +kernel
theorem dX7_four_106 : decode cX7_four 106 = .ok (.lsub, 1) := by decide +kernel
theorem dX7_four_107 : decode cX7_four 107 = .ok (.lreturn, 1) := by decide +kernel
theorem dX7_meetFour_0 : decode cX7_meetFour 0 = .ok (.aload_n 0, 1) := by decide +kernel
theorem dX7_meetFour_1 : decode cX7_meetFour 1 = .ok (.aload_n 0, 1) := by decide +kernel
theorem dX7_meetFour_2 : decode cX7_meetFour 2 = .ok (.iload_n 1, 1) := by decide +kernel
theorem dX7_meetFour_3 : decode cX7_meetFour 3 = .ok (.iload_n 2, 1) := by decide +kernel
theorem dX7_meetFour_4 : decode cX7_meetFour 4 = .ok (.iload_n 3, 1) := by decide +kernel
theorem dX7_meetFour_5 : decode cX7_meetFour 5 = .ok (.iload 4, 2) := by decide +kernel
theorem dX7_meetFour_7 : decode cX7_meetFour 7 = .ok (.iconst 3, 1) := by decide +kernel
theorem dX7_meetFour_8 : decode cX7_meetFour 8 = .ok (.iconst 0, 1) := by decide +kernel
theorem dX7_meetFour_9 : decode cX7_meetFour 9 = .ok (.iconst 1, 1) := by decide +kernel
theorem dX7_meetFour_10 : decode cX7_meetFour 10 = .ok (.iconst 2, 1) := by decide +kernel
theorem dX7_meetFour_11 : decode cX7_meetFour 11 = .ok (.invokevirtual 187, 3) := by decide +kernel
theorem dX7_meetFour_14 : decode cX7_meetFour 14 = .ok (.putfield 91, 3) := by decide +kernel
theorem dX7_meetFour_17 : decode cX7_meetFour 17 = .ok (.aload_n 0, 1) := by decide +kernel
theorem dX7_meetFour_18 : decode cX7_meetFour 18 = .ok (.getfield 91, 3) := by decide +kernel
theorem dX7_meetFour_21 : decode cX7_meetFour 21 = .ok (.lconst 0, 1) := by decide +kernel
theorem dX7_meetFour_22 : decode cX7_meetFour 22 = .ok (.lcmp, 1) := by decide +kernel
theorem dX7_meetFour_23 : decode cX7_meetFour 23 = .ok (.ifCond .ne 5, 3) := by decide +kernel
theorem dX7_meetFour_26 : decode cX7_meetFour 26 = .ok (.iconst 0, 1) := by decide +kernel
theorem dX7_meetFour_27 : decode cX7_meetFour 27 = .ok (.ireturn, 1) := by decide +kernel
theorem dX7_meetFour_28 : decode cX7_meetFour 28 = .ok (.aload_n 0, 1) := by decide +kernel
theorem dX7_meetFour_29 : decode cX7_meetFour 29 = .ok (.getfield 39, 3) := by decide +kernel
theorem dX7_meetFour_32 : decode cX7_meetFour 32 = .ok (.iconst 3, 1) := by decide +kernel
theorem dX7_meetFour_33 : decode cX7_meetFour 33 = .ok (.aload_n 0, 1) := by decide +kernel
theorem dX7_meetFour_34 : decode cX7_meetFour 34 = .ok (.iload_n 1, 1) := by decide +kernel
theorem dX7_meetFour_35 : decode cX7_meetFour 35 = .ok (.iload_n 2, 1) := by decide +kernel
theorem dX7_meetFour_36 : decode cX7_meetFour 36 = .ok (.iload_n 3, 1) := by decide +kernel
theorem dX7_meetFour_37 : decode cX7_meetFour 37 = .ok (.iload 4, 2) := by decide +kernel
theorem dX7_meetFour_39 : decode cX7_meetFour 39 = .ok (.iconst 4, 1) := by decide +kernel
theorem dX7_meetFour_40 : decode cX7_meetFour 40 = .ok (.iconst 0, 1) := by decide +kernel
theorem dX7_meetFour_41 : decode cX7_meetFour 41 = .ok (.iconst 1, 1) := by decide +kernel
theorem dX7_meetFour_42 : decode cX7_meetFour 42 = .ok (.iconst 2, 1) := by decide +kernel
theorem dX7_meetFour_43 : decode cX7_meetFour 43 = .ok (.invokevirtual 187, 3) := by decide +kernel
theorem dX7_meetFour_46 : decode cX7_meetFour 46 = .ok (.lastore, 1) := by decide +kernel
theorem dX7_meetFour_47 : decode cX7_meetFour 47 = .ok (.aload_n 0, 1) := by decide +kernel
theorem dX7_meetFour_48 : decode cX7_meetFour 48 = .ok (.getfield 39, 3) := by decide +kernel
theorem dX7_meetFour_51 : decode cX7_meetFour 51 = .ok (.iconst 0, 1) := by decide +kernel
theorem dX7_meetFour_52 : decode cX7_meetFour 52 = .ok (.aload_n 0, 1) := by decide +kernel
theorem dX7_meetFour_53 : decode cX7_meetFour 53 = .ok (.iload_n 1, 1) := by decide +kernel
theorem dX7_meetFour_54 : decode cX7_meetFour 54 = .ok (.iload_n 2, 1) := by decide +kernel
theorem dX7_meetFour_55 : decode cX7_meetFour 55 = .ok (.iload_n 3, 1) := by decide +kernel
theorem dX7_meetFour_56 : decode cX7_meetFour 56 = .ok (.iload 4, 2) := by decide +kernel
theorem dX7_meetFour_58 : decode cX7_meetFour 58 = .ok (.iconst 3, 1) := by decide +kernel
theorem dX7_meetFour_59 : decode cX7_meetFour 59 = .ok (.iconst 4, 1) := by decide +kernel
theorem dX7_meetFour_60 : decode cX7_meetFour 60 = .ok (.iconst 1, 1) := by decide +kernel
theorem dX7_meetFour_61 : decode cX7_meetFour 61 = .ok (.iconst 2, 1) := by decide +kernel
theorem dX7_meetFour_62 : decode cX7_meetFour 62 = .ok (.invokevirtual 187, 3) := by decide +kernel
theorem dX7_meetFour_65 : decode cX7_meetFour 65 = .ok (.lastore, 1) := by decide +kernel
theorem dX7_meetFour_66 : decode cX7_meetFour 66 = .ok (.aload_n 0, 1) := by decide +kernel
theorem dX7_meetFour_67 : decode cX7_meetFour 67 = .ok (.getfield 39, 3) := by decide +kernel
theorem dX7_meetFour_70 : decode cX7_meetFour 70 = .ok (.iconst 1, 1) := by decide +kernel
theorem dX7_meetFour_71 : decode cX7_meetFour 71 = .ok (.aload_n 0, 1) := by decide +kernel
theorem dX7_meetFour_72 : decode cX7_meetFour 72 = .ok (.iload_n 1, 1) := by decide +kernel
theorem dX7_meetFour_73 : decode cX7_meetFour 73 = .ok (.iload_n 2, 1) := by decide +kernel
theorem dX7_meetFour_74 : decode cX7_meetFour 74 = .ok (.iload_n 3, 1) := by decide +kernel
theorem dX7_meetFour_75 : decode cX7_meetFour 75 = .ok (.iload 4, 2) := by decide +kernel
theorem dX7_meetFour_77 : decode cX7_meetFour 77 = .ok (.iconst 3, 1) := by decide +kernel
theorem dX7_meetFour_78 : decode cX7_meetFour 78 = .ok (.iconst 0, 1) := by decide +kernel
theorem dX7_meetFour_79 : decode cX7_meetFour 79 = .ok (.iconst 4, 1) := by decide +kernel
theorem dX7_meetFour_80 : decode cX7_meetFour 80 = .ok (.iconst 2, 1) := by decide +kernel
theorem dX7_meetFour_81 : decode cX7_meetFour 81 = .ok (.invokevirtual 187, 3) := by decide +kernel
theorem dX7_meetFour_84 : decode cX7_meetFour 84 = .ok (.lastore, 1) := by decide +kernel
theorem dX7_meetFour_85 : decode cX7_meetFour 85 = .ok (.aload_n 0, 1) := by decide +kernel
theorem dX7_meetFour_86 : decode cX7_meetFour 86 = .ok (.getfield 39, 3) := by decide +kernel
theorem dX7_meetFour_89 : decode cX7_meetFour 89 = .ok (.iconst 2, 1) := by decide +kernel
theorem dX7_meetFour_90 : decode cX7_meetFour 90 = .ok (.aload_n 0, 1) := by decide +kernel
theorem dX7_meetFour_91 : decode cX7_meetFour 91 = .ok (.iload_n 1, 1) := by decide +kernel
theorem dX7_meetFour_92 : decode cX7_meetFour 92 = .ok (.iload_n 2, 1) := by decide +kernel
theorem dX7_meetFour_93 : decode cX7_meetFour 93 = .ok (.iload_n 3, 1) := by decide +kernel
theorem dX7_meetFour_94 : decode cX7_meetFour 94 = .ok (.iload 4, 2) := by decide +kernel
theorem dX7_meetFour_96 : decode cX7_meetFour 96 = .ok (.iconst 3, 1) := by decide +kernel
theorem dX7_meetFour_97 : decode cX7_meetFour 97 = .ok (.iconst 0, 1) := by decide +kernel
theorem dX7_meetFour_98 : decode cX7_meetFour 98 = .ok (.iconst 1, 1) := by decide +kernel
theorem dX7_meetFour_99 : decode cX7_meetFour 99 = .ok (.iconst 4, 1) := by decide +kernel
theorem dX7_meetFour_100 : decode cX7_meetFour 100 = .ok (.invokevirtual 187, 3) := by decide +kernel
theorem dX7_meetFour_103 : decode cX7_meetFour 103 = .ok (.lastore, 1) := by decide +kernel
theorem dX7_meetFour_104 : decode cX7_meetFour 104 = .ok (.aload_n 0, 1) := by decide +kernel
theorem dX7_meetFour_105 : decode cX7_meetFour 105 = .ok (.invokevirtual 99, 3) := by decide +kernel
theorem dX7_meetFour_108 : decode cX7_meetFour 108 = .ok (.aload_n 0, 1) := by decide +kernel
theorem dX7_meetFour_109 : decode cX7_meetFour 109 = .ok (.getfield 191, 3) := by decide +kernel
theorem dX7_meetFour_112 : decode cX7_meetFour 112 = .ok (.lconst 0, 1) := by decide +kernel
theorem dX7_meetFour_113 : decode cX7_meetFour 113 = .ok (.lcmp, 1) := by decide +kernel
theorem dX7_meetFour_114 : decode cX7_meetFour 114 = .ok (.ifCond .le 57, 3) := by decide +kernel
theorem dX7_meetFour_117 : decode cX7_meetFour 117 = .ok (.aload_n 0, 1) := by decide +kernel
theorem dX7_meetFour_118 : decode cX7_meetFour 118 = .ok (.getfield 39, 3) := by decide +kernel
theorem dX7_meetFour_121 : decode cX7_meetFour 121 = .ok (.iconst 3, 1) := by decide +kernel
theorem dX7_meetFour_122 : decode cX7_meetFour 122 = .ok (.laload, 1) := by decide +kernel
theorem dX7_meetFour_123 : decode cX7_meetFour 123 = .ok (.aload_n 0, 1) := by decide +kernel
theorem dX7_meetFour_124 : decode cX7_meetFour 124 = .ok (.getfield 39, 3) := by decide +kernel
theorem dX7_meetFour_127 : decode cX7_meetFour 127 = .ok (.iconst 3, 1) := by decide +kernel
theorem dX7_meetFour_128 : decode cX7_meetFour 128 = .ok (.laload, 1) := by decide +kernel
theorem dX7_meetFour_129 : decode cX7_meetFour 129 = .ok (.aload_n 0, 1) := by decide +kernel
theorem dX7_meetFour_130 : decode cX7_meetFour 130 = .ok (.getfield 91, 3) := by decide +kernel
theorem dX7_meetFour_133 : decode cX7_meetFour 133 = .ok (.invokestatic 125, 3) := by decide +kernel
theorem dX7_meetFour_136 : decode cX7_meetFour 136 = .ok (.ldiv, 1) := by decide +kernel
theorem dX7_meetFour_137 : decode cX7_meetFour 137 = .ok (.aload_n 0, 1) := by decide +kernel
theorem dX7_meetFour_138 : decode cX7_meetFour 138 = .ok (.getfield 91, 3) := by decide +kernel
theorem dX7_meetFour_141 : decode cX7_meetFour 141 = .ok (.aload_n 0, 1) := by decide +kernel
theorem dX7_meetFour_142 : decode cX7_meetFour 142 = .ok (.getfield 39, 3) := by decide +kernel
theorem dX7_meetFour_145 : decode cX7_meetFour 145 = .ok (.iconst 3, 1) := by decide +kernel
theorem dX7_meetFour_146 : decode cX7_meetFour 146 = .ok (.laload, 1) := by decide +kernel
theorem dX7_meetFour_147 : decode cX7_meetFour 147 = .ok (.aload_n 0, 1) := by decide +kernel
theorem dX7_meetFour_148 : decode cX7_meetFour 148 = .ok (.getfield 91, 3) := by decide +kernel
theorem dX7_meetFour_151 : decode cX7_meetFour 151 = .ok (.invokestatic 125, 3) := by decide +kernel
theorem dX7_meetFour_154 : decode cX7_meetFour 154 = .ok (.ldiv, 1) := by decide +kernel
theorem dX7_meetFour_155 : decode cX7_meetFour 155 = .ok (.aload_n 0, 1) := by decide +kernel
theorem dX7_meetFour_156 : decode cX7_meetFour 156 = .ok (.getfield 194, 3) := by decide +kernel
theorem dX7_meetFour_159 : decode cX7_meetFour 159 = .ok (.aload_n 0, 1) := by decide +kernel
theorem dX7_meetFour_160 : decode cX7_meetFour 160 = .ok (.getfield 191, 3) := by decide +kernel
theorem dX7_meetFour_163 : decode cX7_meetFour 163 = .ok (.invokestatic 131, 3) := by decide +kernel
theorem dX7_meetFour_166 : decode cX7_meetFour 166 = .ok (.ifCond .lt 5, 3) := by decide +kernel
theorem dX7_meetFour_169 : decode cX7_meetFour 169 = .ok (.iconst 0, 1) := by decide +kernel
theorem dX7_meetFour_170 : decode cX7_meetFour 170 = .ok (.ireturn, 1) := by decide +kernel
theorem dX7_meetFour_171 : decode cX7_meetFour 171 = .ok (.aload_n 0, 1) := by decide +kernel
theorem dX7_meetFour_172 : decode cX7_meetFour 172 = .ok (.invokevirtual 102, 3) := by decide +kernel
theorem dX7_meetFour_175 : decode cX7_meetFour 175 = .ok (.ireturn, 1) := by decide +kernel
theorem dX7_findFactor_0 : decode cX7_findFactor 0 = .ok (.aload_n 0, 1) := by decide +kernel
theorem dX7_findFactor_1 : decode cX7_findFactor 1 = .ok (.iconst 1, 1) := by decide +kernel
theorem dX7_findFactor_2 : decode cX7_findFactor 2 = .ok (.invokevirtual 110, 3) := by decide +kernel
theorem dX7_findFactor_5 : decode cX7_findFactor 5 = .ok (.aload_n 0, 1) := by decide +kernel
theorem dX7_findFactor_6 : decode cX7_findFactor 6 = .ok (.lconst 0, 1) := by decide +kernel
theorem dX7_findFactor_7 : decode cX7_findFactor 7 = .ok (.putfield 191, 3) := by decide +kernel
theorem dX7_findFactor_10 : decode cX7_findFactor 10 = .ok (.iconst 0, 1) := by decide +kernel
theorem dX7_findFactor_11 : decode cX7_findFactor 11 = .ok (.istore_n 1, 1) := by decide +kernel
theorem dX7_findFactor_12 : decode cX7_findFactor 12 = .ok (.iload_n 1, 1) := by decide +kernel
theorem dX7_findFactor_13 : decode cX7_findFactor 13 = .ok (.aload_n 0, 1) := by decide +kernel
theorem dX7_findFactor_14 : decode cX7_findFactor 14 = .ok (.getfield 88, 3) := by decide +kernel
theorem dX7_findFactor_17 : decode cX7_findFactor 17 = .ok (.if_icmp .ge 116, 3) := by decide +kernel
theorem dX7_findFactor_20 : decode cX7_findFactor 20 = .ok (.iload_n 1, 1) := by decide +kernel
theorem dX7_findFactor_21 : decode cX7_findFactor 21 = .ok (.iconst 1, 1) := by decide +kernel
theorem dX7_findFactor_22 : decode cX7_findFactor 22 = .ok (.iadd, 1) := by decide +kernel
theorem dX7_findFactor_23 : decode cX7_findFactor 23 = .ok (.istore_n 2, 1) := by decide +kernel
theorem dX7_findFactor_24 : decode cX7_findFactor 24 = .ok (.iload_n 2, 1) := by decide +kernel
theorem dX7_findFactor_25 : decode cX7_findFactor 25 = .ok (.aload_n 0, 1) := by decide +kernel
theorem dX7_findFactor_26 : decode cX7_findFactor 26 = .ok (.getfield 88, 3) := by decide +kernel
theorem dX7_findFactor_29 : decode cX7_findFactor 29 = .ok (.if_icmp .ge 98, 3) := by decide +kernel
theorem dX7_findFactor_32 : decode cX7_findFactor 32 = .ok (.iload_n 2, 1) := by decide +kernel
theorem dX7_findFactor_33 : decode cX7_findFactor 33 = .ok (.iconst 1, 1) := by decide +kernel
theorem dX7_findFactor_34 : decode cX7_findFactor 34 = .ok (.iadd, 1) := by decide +kernel
theorem dX7_findFactor_35 : decode cX7_findFactor 35 = .ok (.istore_n 3, 1) := by decide +kernel
theorem dX7_findFactor_36 : decode cX7_findFactor 36 = .ok (.iload_n 3, 1) := by decide +kernel
theorem dX7_findFactor_37 : decode cX7_findFactor 37 = .ok (.aload_n 0, 1) := by decide +kernel
theorem dX7_findFactor_38 : decode cX7_findFactor 38 = .ok (.getfield 88, 3) := by decide +kernel
theorem dX7_findFactor_41 : decode cX7_findFactor 41 = .ok (.if_icmp .ge 80, 3) := by decide +kernel
theorem dX7_findFactor_44 : decode cX7_findFactor 44 = .ok (.iload_n 3, 1) := by decide +kernel
theorem dX7_findFactor_45 : decode cX7_findFactor 45 = .ok (.iconst 1, 1) := by decide +kernel
theorem dX7_findFactor_46 : decode cX7_findFactor 46 = .ok (.iadd, 1) := by decide +kernel
theorem dX7_findFactor_47 : decode cX7_findFactor 47 = .ok (.istore 4, 2) := by decide +kernel
theorem dX7_findFactor_49 : decode cX7_findFactor 49 = .ok (.iload 4, 2) := by decide +kernel
theorem dX7_findFactor_51 : decode cX7_findFactor 51 = .ok (.aload_n 0, 1) := by decide +kernel
theorem dX7_findFactor_52 : decode cX7_findFactor 52 = .ok (.getfield 88, 3) := by decide +kernel
theorem dX7_findFactor_55 : decode cX7_findFactor 55 = .ok (.if_icmp .ge 60, 3) := by decide +kernel
theorem dX7_findFactor_58 : decode cX7_findFactor 58 = .ok (.aload_n 0, 1) := by decide +kernel
theorem dX7_findFactor_59 : decode cX7_findFactor 59 = .ok (.iload_n 1, 1) := by decide +kernel
theorem dX7_findFactor_60 : decode cX7_findFactor 60 = .ok (.iload_n 2, 1) := by decide +kernel
theorem dX7_findFactor_61 : decode cX7_findFactor 61 = .ok (.iload_n 3, 1) := by decide +kernel
theorem dX7_findFactor_62 : decode cX7_findFactor 62 = .ok (.iload 4, 2) := by decide +kernel
theorem dX7_findFactor_64 : decode cX7_findFactor 64 = .ok (.invokevirtual 197, 3) := by decide +kernel
theorem dX7_findFactor_67 : decode cX7_findFactor 67 = .ok (.ifCond .eq 42, 3) := by decide +kernel
theorem dX7_findFactor_70 : decode cX7_findFactor 70 = .ok (.aload_n 0, 1) := by decide +kernel
theorem dX7_findFactor_71 : decode cX7_findFactor 71 = .ok (.getfield 39, 3) := by decide +kernel
theorem dX7_findFactor_74 : decode cX7_findFactor 74 = .ok (.iconst 3, 1) := by decide +kernel
theorem dX7_findFactor_75 : decode cX7_findFactor 75 = .ok (.laload, 1) := by decide +kernel
theorem dX7_findFactor_76 : decode cX7_findFactor 76 = .ok (.aload_n 0, 1) := by decide +kernel
theorem dX7_findFactor_77 : decode cX7_findFactor 77 = .ok (.getfield 91, 3) := by decide +kernel
theorem dX7_findFactor_80 : decode cX7_findFactor 80 = .ok (.invokestatic 125, 3) := by decide +kernel
theorem dX7_findFactor_83 : decode cX7_findFactor 83 = .ok (.lstore 5, 2) := by decide +kernel
theorem dX7_findFactor_85 : decode cX7_findFactor 85 = .ok (.aload_n 0, 1) := by decide +kernel
theorem dX7_findFactor_86 : decode cX7_findFactor 86 = .ok (.aload_n 0, 1) := by decide +kernel
theorem dX7_findFactor_87 : decode cX7_findFactor 87 = .ok (.getfield 39, 3) := by decide +kernel
theorem dX7_findFactor_90 : decode cX7_findFactor 90 = .ok (.iconst 3, 1) := by decide +kernel
theorem dX7_findFactor_91 : decode cX7_findFactor 91 = .ok (.laload, 1) := by decide +kernel
theorem dX7_findFactor_92 : decode cX7_findFactor 92 = .ok (.lload 5, 2) := by decide +kernel
theorem dX7_findFactor_94 : decode cX7_findFactor 94 = .ok (.ldiv, 1) := by decide +kernel
theorem dX7_findFactor_95 : decode cX7_findFactor 95 = .ok (.putfield 194, 3) := by decide +kernel
theorem dX7_findFactor_98 : decode cX7_findFactor 98 = .ok (.aload_n 0, 1) := by decide +kernel
theorem dX7_findFactor_99 : decode cX7_findFactor 99 = .ok (.aload_n 0, 1) := by decide +kernel
theorem dX7_findFactor_100 : decode cX7_findFactor 100 = .ok (.getfield 91, 3) := by decide +kernel
theorem dX7_findFactor_103 : decode cX7_findFactor 103 = .ok (.lload 5, 2) := by decide +kernel
theorem dX7_findFactor_105 : decode cX7_findFactor 105 = .ok (.ldiv, 1) := by decide +kernel
theorem dX7_findFactor_106 : decode cX7_findFactor 106 = .ok (.putfield 191, 3) := by decide +kernel
theorem dX7_findFactor_109 : decode cX7_findFactor 109 = .ok (.iinc 4 1, 3) := by decide +kernel
theorem dX7_findFactor_112 : decode cX7_findFactor 112 = .ok (.goto (-63), 3) := by decide +kernel
theorem dX7_findFactor_115 : decode cX7_findFactor 115 = .ok (.iinc 3 1, 3) := by decide +kernel
theorem dX7_findFactor_118 : decode cX7_findFactor 118 = .ok (.goto (-82), 3) := by decide +kernel
theorem dX7_findFactor_121 : decode cX7_findFactor 121 = .ok (.iinc 2 1, 3) := by decide +kernel
theorem dX7_findFactor_124 : decode cX7_findFactor 124 = .ok (.goto (-100), 3) := by decide +kernel
theorem dX7_findFactor_127 : decode cX7_findFactor 127 = .ok (.iinc 1 1, 3) := by decide +kernel
theorem dX7_findFactor_130 : decode cX7_findFactor 130 = .ok (.goto (-118), 3) := by decide +kernel
theorem dX7_findFactor_133 : decode cX7_findFactor 133 = .ok (.aload_n 0, 1) := by decide +kernel
theorem dX7_findFactor_134 : decode cX7_findFactor 134 = .ok (.getfield 191, 3) := by decide +kernel
theorem dX7_findFactor_137 : decode cX7_findFactor 137 = .ok (.lconst 0, 1) := by decide +kernel
theorem dX7_findFactor_138 : decode cX7_findFactor 138 = .ok (.lcmp, 1) := by decide +kernel
theorem dX7_findFactor_139 : decode cX7_findFactor 139 = .ok (.ifCond .le 7, 3) := by decide +kernel
theorem dX7_findFactor_142 : decode cX7_findFactor 142 = .ok (.iconst 1, 1) := by decide +kernel
theorem dX7_findFactor_143 : decode cX7_findFactor 143 = .ok (.goto 4, 3) := by decide +kernel
theorem dX7_findFactor_146 : decode cX7_findFactor 146 = .ok (.iconst 0, 1) := by decide +kernel
theorem dX7_findFactor_147 : decode cX7_findFactor 147 = .ok (.ireturn, 1) := by decide +kernel
theorem dX7_factor_0 : decode cX7_factor 0 = .ok (.iload_n 1, 1) := by decide +kernel
theorem dX7_factor_1 : decode cX7_factor 1 = .ok (.i2l, 1) := by decide +kernel
end
section
theorem dX7_factor_2 : decode cX7_factor 2 = .ok (.lconst 0, 1) := by decide +kernel
theorem dX7_factor_3 : decode cX7_factor 3 = .ok (.lconst 1, 1) := by decide +kernel
theorem dX7_factor_4 : decode cX7_factor 4 = .ok (.invokestatic 59, 3) := by decide +kernel
theorem dX7_factor_7 : decode cX7_factor 7 = .ok (.ifCond .ne 7, 3) := by decide +kernel
theorem dX7_factor_10 : decode cX7_factor 10 = .ok (.ldc2_w 144, 3) := by decide +kernel
theorem dX7_factor_13 : decode cX7_factor 13 = .ok (.lreturn, 1) := by decide +kernel
theorem dX7_factor_14 : decode cX7_factor 14 = .ok (.aload_n 0, 1) := by decide +kernel
theorem dX7_factor_15 : decode cX7_factor 15 = .ok (.invokevirtual 201, 3) := by decide +kernel
theorem dX7_factor_18 : decode cX7_factor 18 = .ok (.ifCond .ne 9, 3) := by decide +kernel
theorem dX7_factor_21 : decode cX7_factor 21 = .ok (.ldc2_w 149, 3) := by decide +kernel
theorem dX7_factor_24 : decode cX7_factor 24 = .ok (.goto 18, 3) := by decide +kernel
theorem dX7_factor_27 : decode cX7_factor 27 = .ok (.iload_n 1, 1) := by decide +kernel
theorem dX7_factor_28 : decode cX7_factor 28 = .ok (.ifCond .ne 10, 3) := by decide +kernel
theorem dX7_factor_31 : decode cX7_factor 31 = .ok (.aload_n 0, 1) := by decide +kernel
theorem dX7_factor_32 : decode cX7_factor 32 = .ok (.getfield 194, 3) := by decide +kernel
theorem dX7_factor_35 : decode cX7_factor 35 = .ok (.goto 7, 3) := by decide +kernel
theorem dX7_factor_38 : decode cX7_factor 38 = .ok (.aload_n 0, 1) := by decide +kernel
theorem dX7_factor_39 : decode cX7_factor 39 = .ok (.getfield 191, 3) := by decide +kernel
theorem dX7_factor_42 : decode cX7_factor 42 = .ok (.lreturn, 1) := by decide +kernel
theorem dX7_harms_0 : decode cX7_harms 0 = .ok (.iload_n 1, 1) := by decide +kernel
theorem dX7_harms_1 : decode cX7_harms 1 = .ok (.i2l, 1) := by decide +kernel
theorem dX7_harms_2 : decode cX7_harms 2 = .ok (.lconst 1, 1) := by decide +kernel
theorem dX7_harms_3 : decode cX7_harms 3 = .ok (.ldc2_w 67, 3) := by decide +kernel
theorem dX7_harms_6 : decode cX7_harms 6 = .ok (.invokestatic 59, 3) := by decide +kernel
theorem dX7_harms_9 : decode cX7_harms 9 = .ok (.ifCond .ne 5, 3) := by decide +kernel
theorem dX7_harms_12 : decode cX7_harms 12 = .ok (.iconst (-1), 1) := by decide +kernel
theorem dX7_harms_13 : decode cX7_harms 13 = .ok (.ireturn, 1) := by decide +kernel
theorem dX7_harms_14 : decode cX7_harms 14 = .ok (.iconst 0, 1) := by decide +kernel
theorem dX7_harms_15 : decode cX7_harms 15 = .ok (.istore_n 2, 1) := by decide +kernel
theorem dX7_harms_16 : decode cX7_harms 16 = .ok (.lconst 0, 1) := by decide +kernel
theorem dX7_harms_17 : decode cX7_harms 17 = .ok (.lstore_n 3, 1) := by decide +kernel
theorem dX7_harms_18 : decode cX7_harms 18 = .ok (.lconst 1, 1) := by decide +kernel
theorem dX7_harms_19 : decode cX7_harms 19 = .ok (.lstore 5, 2) := by decide +kernel
theorem dX7_harms_21 : decode cX7_harms 21 = .ok (.iconst 1, 1) := by decide +kernel
theorem dX7_harms_22 : decode cX7_harms 22 = .ok (.istore 7, 2) := by decide +kernel
theorem dX7_harms_24 : decode cX7_harms 24 = .ok (.iload 7, 2) := by decide +kernel
theorem dX7_harms_26 : decode cX7_harms 26 = .ok (.aload_n 0, 1) := by decide +kernel
theorem dX7_harms_27 : decode cX7_harms 27 = .ok (.getfield 7, 3) := by decide +kernel
theorem dX7_harms_30 : decode cX7_harms 30 = .ok (.if_icmp .ge 80, 3) := by decide +kernel
theorem dX7_harms_33 : decode cX7_harms 33 = .ok (.aload_n 0, 1) := by decide +kernel
theorem dX7_harms_34 : decode cX7_harms 34 = .ok (.getfield 23, 3) := by decide +kernel
theorem dX7_harms_37 : decode cX7_harms 37 = .ok (.iload 7, 2) := by decide +kernel
theorem dX7_harms_39 : decode cX7_harms 39 = .ok (.dup2, 1) := by decide +kernel
theorem dX7_harms_40 : decode cX7_harms 40 = .ok (.iaload, 1) := by decide +kernel
theorem dX7_harms_41 : decode cX7_harms 41 = .ok (.iload_n 1, 1) := by decide +kernel
theorem dX7_harms_42 : decode cX7_harms 42 = .ok (.iadd, 1) := by decide +kernel
theorem dX7_harms_43 : decode cX7_harms 43 = .ok (.iastore, 1) := by decide +kernel
theorem dX7_harms_44 : decode cX7_harms 44 = .ok (.aload_n 0, 1) := by decide +kernel
theorem dX7_harms_45 : decode cX7_harms 45 = .ok (.invokevirtual 201, 3) := by decide +kernel
theorem dX7_harms_48 : decode cX7_harms 48 = .ok (.istore 8, 2) := by decide +kernel
theorem dX7_harms_50 : decode cX7_harms 50 = .ok (.aload_n 0, 1) := by decide +kernel
theorem dX7_harms_51 : decode cX7_harms 51 = .ok (.getfield 23, 3) := by decide +kernel
theorem dX7_harms_54 : decode cX7_harms 54 = .ok (.iload 7, 2) := by decide +kernel
theorem dX7_harms_56 : decode cX7_harms 56 = .ok (.dup2, 1) := by decide +kernel
theorem dX7_harms_57 : decode cX7_harms 57 = .ok (.iaload, 1) := by decide +kernel
theorem dX7_harms_58 : decode cX7_harms 58 = .ok (.iload_n 1, 1) := by decide +kernel
theorem dX7_harms_59 : decode cX7_harms 59 = .ok (.isub, 1) := by decide +kernel
theorem dX7_harms_60 : decode cX7_harms 60 = .ok (.iastore, 1) := by decide +kernel
theorem dX7_harms_61 : decode cX7_harms 61 = .ok (.iload 8, 2) := by decide +kernel
theorem dX7_harms_63 : decode cX7_harms 63 = .ok (.ifCond .ne 6, 3) := by decide +kernel
theorem dX7_harms_66 : decode cX7_harms 66 = .ok (.iload 7, 2) := by decide +kernel
theorem dX7_harms_68 : decode cX7_harms 68 = .ok (.ireturn, 1) := by decide +kernel
theorem dX7_harms_69 : decode cX7_harms 69 = .ok (.iload_n 2, 1) := by decide +kernel
theorem dX7_harms_70 : decode cX7_harms 70 = .ok (.ifCond .eq 20, 3) := by decide +kernel
theorem dX7_harms_73 : decode cX7_harms 73 = .ok (.aload_n 0, 1) := by decide +kernel
theorem dX7_harms_74 : decode cX7_harms 74 = .ok (.getfield 194, 3) := by decide +kernel
theorem dX7_harms_77 : decode cX7_harms 77 = .ok (.aload_n 0, 1) := by decide +kernel
theorem dX7_harms_78 : decode cX7_harms 78 = .ok (.getfield 191, 3) := by decide +kernel
theorem dX7_harms_81 : decode cX7_harms 81 = .ok (.lload_n 3, 1) := by decide +kernel
theorem dX7_harms_82 : decode cX7_harms 82 = .ok (.lload 5, 2) := by decide +kernel
theorem dX7_harms_84 : decode cX7_harms 84 = .ok (.invokestatic 131, 3) := by decide +kernel
theorem dX7_harms_87 : decode cX7_harms 87 = .ok (.ifCond .le 17, 3) := by decide +kernel
theorem dX7_harms_90 : decode cX7_harms 90 = .ok (.iload 7, 2) := by decide +kernel
theorem dX7_harms_92 : decode cX7_harms 92 = .ok (.istore_n 2, 1) := by decide +kernel
theorem dX7_harms_93 : decode cX7_harms 93 = .ok (.aload_n 0, 1) := by decide +kernel
theorem dX7_harms_94 : decode cX7_harms 94 = .ok (.getfield 194, 3) := by decide +kernel
theorem dX7_harms_97 : decode cX7_harms 97 = .ok (.lstore_n 3, 1) := by decide +kernel
theorem dX7_harms_98 : decode cX7_harms 98 = .ok (.aload_n 0, 1) := by decide +kernel
theorem dX7_harms_99 : decode cX7_harms 99 = .ok (.getfield 191, 3) := by decide +kernel
theorem dX7_harms_102 : decode cX7_harms 102 = .ok (.lstore 5, 2) := by decide +kernel
theorem dX7_harms_104 : decode cX7_harms 104 = .ok (.iinc 7 1, 3) := by decide +kernel
theorem dX7_harms_107 : decode cX7_harms 107 = .ok (.goto (-83), 3) := by decide +kernel
theorem dX7_harms_110 : decode cX7_harms 110 = .ok (.iload_n 2, 1) := by decide +kernel
theorem dX7_harms_111 : decode cX7_harms 111 = .ok (.ireturn, 1) := by decide +kernel
theorem dX7_falls_0 : decode cX7_falls 0 = .ok (.aload_n 0, 1) := by decide +kernel
theorem dX7_falls_1 : decode cX7_falls 1 = .ok (.getfield 7, 3) := by decide +kernel
theorem dX7_falls_4 : decode cX7_falls 4 = .ok (.iconst 2, 1) := by decide +kernel
theorem dX7_falls_5 : decode cX7_falls 5 = .ok (.idiv, 1) := by decide +kernel
theorem dX7_falls_6 : decode cX7_falls 6 = .ok (.istore_n 1, 1) := by decide +kernel
theorem dX7_falls_7 : decode cX7_falls 7 = .ok (.bipush (-4), 2) := by decide +kernel
theorem dX7_falls_9 : decode cX7_falls 9 = .ok (.istore_n 2, 1) := by decide +kernel
theorem dX7_falls_10 : decode cX7_falls 10 = .ok (.iconst 0, 1) := by decide +kernel
theorem dX7_falls_11 : decode cX7_falls 11 = .ok (.istore_n 3, 1) := by decide +kernel
theorem dX7_falls_12 : decode cX7_falls 12 = .ok (.iload_n 3, 1) := by decide +kernel
theorem dX7_falls_13 : decode cX7_falls 13 = .ok (.aload_n 0, 1) := by decide +kernel
theorem dX7_falls_14 : decode cX7_falls 14 = .ok (.getfield 7, 3) := by decide +kernel
theorem dX7_falls_17 : decode cX7_falls 17 = .ok (.if_icmp .gt 21, 3) := by decide +kernel
theorem dX7_falls_20 : decode cX7_falls 20 = .ok (.aload_n 0, 1) := by decide +kernel
theorem dX7_falls_21 : decode cX7_falls 21 = .ok (.getfield 48, 3) := by decide +kernel
theorem dX7_falls_24 : decode cX7_falls 24 = .ok (.iload_n 3, 1) := by decide +kernel
theorem dX7_falls_25 : decode cX7_falls 25 = .ok (.aload_n 0, 1) := by decide +kernel
theorem dX7_falls_26 : decode cX7_falls 26 = .ok (.getfield 23, 3) := by decide +kernel
theorem dX7_falls_29 : decode cX7_falls 29 = .ok (.iload_n 3, 1) := by decide +kernel
theorem dX7_falls_30 : decode cX7_falls 30 = .ok (.iaload, 1) := by decide +kernel
theorem dX7_falls_31 : decode cX7_falls 31 = .ok (.iastore, 1) := by decide +kernel
theorem dX7_falls_32 : decode cX7_falls 32 = .ok (.iinc 3 1, 3) := by decide +kernel
theorem dX7_falls_35 : decode cX7_falls 35 = .ok (.goto (-23), 3) := by decide +kernel
theorem dX7_falls_38 : decode cX7_falls 38 = .ok (.iconst 0, 1) := by decide +kernel
theorem dX7_falls_39 : decode cX7_falls 39 = .ok (.istore_n 3, 1) := by decide +kernel
theorem dX7_falls_40 : decode cX7_falls 40 = .ok (.iload_n 3, 1) := by decide +kernel
theorem dX7_falls_41 : decode cX7_falls 41 = .ok (.iload_n 1, 1) := by decide +kernel
theorem dX7_falls_42 : decode cX7_falls 42 = .ok (.if_icmp .gt 86, 3) := by decide +kernel
theorem dX7_falls_45 : decode cX7_falls 45 = .ok (.iload_n 2, 1) := by decide +kernel
theorem dX7_falls_46 : decode cX7_falls 46 = .ok (.bipush (-4), 2) := by decide +kernel
theorem dX7_falls_48 : decode cX7_falls 48 = .ok (.if_icmp .ne 80, 3) := by decide +kernel
theorem dX7_falls_51 : decode cX7_falls 51 = .ok (.iconst 1, 1) := by decide +kernel
theorem dX7_falls_52 : decode cX7_falls 52 = .ok (.istore 4, 2) := by decide +kernel
theorem dX7_falls_54 : decode cX7_falls 54 = .ok (.iload 4, 2) := by decide +kernel
theorem dX7_falls_56 : decode cX7_falls 56 = .ok (.aload_n 0, 1) := by decide +kernel
theorem dX7_falls_57 : decode cX7_falls 57 = .ok (.getfield 7, 3) := by decide +kernel
theorem dX7_falls_60 : decode cX7_falls 60 = .ok (.if_icmp .ge 44, 3) := by decide +kernel
theorem dX7_falls_63 : decode cX7_falls 63 = .ok (.aload_n 0, 1) := by decide +kernel
theorem dX7_falls_64 : decode cX7_falls 64 = .ok (.getfield 23, 3) := by decide +kernel
theorem dX7_falls_67 : decode cX7_falls 67 = .ok (.iload 4, 2) := by decide +kernel
theorem dX7_falls_69 : decode cX7_falls 69 = .ok (.iload 4, 2) := by decide +kernel
theorem dX7_falls_71 : decode cX7_falls 71 = .ok (.iload_n 3, 1) := by decide +kernel
theorem dX7_falls_72 : decode cX7_falls 72 = .ok (.if_icmp .le 14, 3) := by decide +kernel
theorem dX7_falls_75 : decode cX7_falls 75 = .ok (.iload 4, 2) := by decide +kernel
theorem dX7_falls_77 : decode cX7_falls 77 = .ok (.aload_n 0, 1) := by decide +kernel
theorem dX7_falls_78 : decode cX7_falls 78 = .ok (.getfield 7, 3) := by decide +kernel
theorem dX7_falls_81 : decode cX7_falls 81 = .ok (.iload_n 3, 1) := by decide +kernel
theorem dX7_falls_82 : decode cX7_falls 82 = .ok (.isub, 1) := by decide +kernel
theorem dX7_falls_83 : decode cX7_falls 83 = .ok (.if_icmp .lt 13, 3) := by decide +kernel
theorem dX7_falls_86 : decode cX7_falls 86 = .ok (.aload_n 0, 1) := by decide +kernel
theorem dX7_falls_87 : decode cX7_falls 87 = .ok (.getfield 48, 3) := by decide +kernel
theorem dX7_falls_90 : decode cX7_falls 90 = .ok (.iload 4, 2) := by decide +kernel
theorem dX7_falls_92 : decode cX7_falls 92 = .ok (.iaload, 1) := by decide +kernel
theorem dX7_falls_93 : decode cX7_falls 93 = .ok (.goto 4, 3) := by decide +kernel
theorem dX7_falls_96 : decode cX7_falls 96 = .ok (.iconst 0, 1) := by decide +kernel
theorem dX7_falls_97 : decode cX7_falls 97 = .ok (.iastore, 1) := by decide +kernel
theorem dX7_falls_98 : decode cX7_falls 98 = .ok (.iinc 4 1, 3) := by decide +kernel
theorem dX7_falls_101 : decode cX7_falls 101 = .ok (.goto (-47), 3) := by decide +kernel
theorem dX7_falls_104 : decode cX7_falls 104 = .ok (.aload_n 0, 1) := by decide +kernel
theorem dX7_falls_105 : decode cX7_falls 105 = .ok (.invokevirtual 141, 3) := by decide +kernel
theorem dX7_falls_108 : decode cX7_falls 108 = .ok (.aload_n 0, 1) := by decide +kernel
theorem dX7_falls_109 : decode cX7_falls 109 = .ok (.getfield 114, 3) := by decide +kernel
theorem dX7_falls_112 : decode cX7_falls 112 = .ok (.ifCond .eq 8, 3) := by decide +kernel
theorem dX7_falls_115 : decode cX7_falls 115 = .ok (.bipush (-4), 2) := by decide +kernel
theorem dX7_falls_117 : decode cX7_falls 117 = .ok (.goto 4, 3) := by decide +kernel
theorem dX7_falls_120 : decode cX7_falls 120 = .ok (.iload_n 3, 1) := by decide +kernel
theorem dX7_falls_121 : decode cX7_falls 121 = .ok (.istore_n 2, 1) := by decide +kernel
theorem dX7_falls_122 : decode cX7_falls 122 = .ok (.iinc 3 1, 3) := by decide +kernel
theorem dX7_falls_125 : decode cX7_falls 125 = .ok (.goto (-85), 3) := by decide +kernel
theorem dX7_falls_128 : decode cX7_falls 128 = .ok (.iconst 0, 1) := by decide +kernel
theorem dX7_falls_129 : decode cX7_falls 129 = .ok (.istore_n 3, 1) := by decide +kernel
theorem dX7_falls_130 : decode cX7_falls 130 = .ok (.iload_n 3, 1) := by decide +kernel
theorem dX7_falls_131 : decode cX7_falls 131 = .ok (.aload_n 0, 1) := by decide +kernel
theorem dX7_falls_132 : decode cX7_falls 132 = .ok (.getfield 7, 3) := by decide +kernel
theorem dX7_falls_135 : decode cX7_falls 135 = .ok (.if_icmp .gt 21, 3) := by decide +kernel
theorem dX7_falls_138 : decode cX7_falls 138 = .ok (.aload_n 0, 1) := by decide +kernel
theorem dX7_falls_139 : decode cX7_falls 139 = .ok (.getfield 23, 3) := by decide +kernel
theorem dX7_falls_142 : decode cX7_falls 142 = .ok (.iload_n 3, 1) := by decide +kernel
theorem dX7_falls_143 : decode cX7_falls 143 = .ok (.aload_n 0, 1) := by decide +kernel
theorem dX7_falls_144 : decode cX7_falls 144 = .ok (.getfield 48, 3) := by decide +kernel
theorem dX7_falls_147 : decode cX7_falls 147 = .ok (.iload_n 3, 1) := by decide +kernel
theorem dX7_falls_148 : decode cX7_falls 148 = .ok (.iaload, 1) := by decide +kernel
theorem dX7_falls_149 : decode cX7_falls 149 = .ok (.iastore, 1) := by decide +kernel
theorem dX7_falls_150 : decode cX7_falls 150 = .ok (.iinc 3 1, 3) := by decide +kernel
theorem dX7_falls_153 : decode cX7_falls 153 = .ok (.goto (-23), 3) := by decide +kernel
theorem dX7_falls_156 : decode cX7_falls 156 = .ok (.iload_n 2, 1) := by decide +kernel
theorem dX7_falls_157 : decode cX7_falls 157 = .ok (.ireturn, 1) := by decide +kernel
theorem dX7_spread_0 : decode cX7_spread 0 = .ok (.iload_n 1, 1) := by decide +kernel
theorem dX7_spread_1 : decode cX7_spread 1 = .ok (.i2l, 1) := by decide +kernel
theorem dX7_spread_2 : decode cX7_spread 2 = .ok (.ldc2_w 204, 3) := by decide +kernel
theorem dX7_spread_5 : decode cX7_spread 5 = .ok (.ldc2_w 67, 3) := by decide +kernel
theorem dX7_spread_8 : decode cX7_spread 8 = .ok (.invokestatic 59, 3) := by decide +kernel
theorem dX7_spread_11 : decode cX7_spread 11 = .ok (.ifCond .ne 5, 3) := by decide +kernel
theorem dX7_spread_14 : decode cX7_spread 14 = .ok (.iconst (-1), 1) := by decide +kernel
theorem dX7_spread_15 : decode cX7_spread 15 = .ok (.ireturn, 1) := by decide +kernel
theorem dX7_spread_16 : decode cX7_spread 16 = .ok (.aload_n 0, 1) := by decide +kernel
theorem dX7_spread_17 : decode cX7_spread 17 = .ok (.getfield 13, 3) := by decide +kernel
theorem dX7_spread_20 : decode cX7_spread 20 = .ok (.aload_n 0, 1) := by decide +kernel
theorem dX7_spread_21 : decode cX7_spread 21 = .ok (.getfield 7, 3) := by decide +kernel
theorem dX7_spread_24 : decode cX7_spread 24 = .ok (.iaload, 1) := by decide +kernel
theorem dX7_spread_25 : decode cX7_spread 25 = .ok (.iload_n 1, 1) := by decide +kernel
theorem dX7_spread_26 : decode cX7_spread 26 = .ok (.iadd, 1) := by decide +kernel
theorem dX7_spread_27 : decode cX7_spread 27 = .ok (.i2l, 1) := by decide +kernel
theorem dX7_spread_28 : decode cX7_spread 28 = .ok (.aload_n 0, 1) := by decide +kernel
theorem dX7_spread_29 : decode cX7_spread 29 = .ok (.getfield 13, 3) := by decide +kernel
theorem dX7_spread_32 : decode cX7_spread 32 = .ok (.aload_n 0, 1) := by decide +kernel
theorem dX7_spread_33 : decode cX7_spread 33 = .ok (.getfield 7, 3) := by decide +kernel
theorem dX7_spread_36 : decode cX7_spread 36 = .ok (.iconst 1, 1) := by decide +kernel
theorem dX7_spread_37 : decode cX7_spread 37 = .ok (.isub, 1) := by decide +kernel
theorem dX7_spread_38 : decode cX7_spread 38 = .ok (.iaload, 1) := by decide +kernel
theorem dX7_spread_39 : decode cX7_spread 39 = .ok (.iconst 1, 1) := by decide +kernel
theorem dX7_spread_40 : decode cX7_spread 40 = .ok (.iadd, 1) := by decide +kernel
theorem dX7_spread_41 : decode cX7_spread 41 = .ok (.i2l, 1) := by decide +kernel
theorem dX7_spread_42 : decode cX7_spread 42 = .ok (.ldc2_w 63, 3) := by decide +kernel
theorem dX7_spread_45 : decode cX7_spread 45 = .ok (.invokestatic 59, 3) := by decide +kernel
theorem dX7_spread_48 : decode cX7_spread 48 = .ok (.ifCond .ne 6, 3) := by decide +kernel
theorem dX7_spread_51 : decode cX7_spread 51 = .ok (.bipush (-2), 2) := by decide +kernel
theorem dX7_spread_53 : decode cX7_spread 53 = .ok (.ireturn, 1) := by decide +kernel
theorem dX7_spread_54 : decode cX7_spread 54 = .ok (.aload_n 0, 1) := by decide +kernel
theorem dX7_spread_55 : decode cX7_spread 55 = .ok (.getfield 13, 3) := by decide +kernel
theorem dX7_spread_58 : decode cX7_spread 58 = .ok (.aload_n 0, 1) := by decide +kernel
theorem dX7_spread_59 : decode cX7_spread 59 = .ok (.getfield 7, 3) := by decide +kernel
theorem dX7_spread_62 : decode cX7_spread 62 = .ok (.dup2, 1) := by decide +kernel
theorem dX7_spread_63 : decode cX7_spread 63 = .ok (.iaload, 1) := by decide +kernel
theorem dX7_spread_64 : decode cX7_spread 64 = .ok (.iload_n 1, 1) := by decide +kernel
theorem dX7_spread_65 : decode cX7_spread 65 = .ok (.iadd, 1) := by decide +kernel
theorem dX7_spread_66 : decode cX7_spread 66 = .ok (.iastore, 1) := by decide +kernel
theorem dX7_spread_67 : decode cX7_spread 67 = .ok (.iconst 1, 1) := by decide +kernel
theorem dX7_spread_68 : decode cX7_spread 68 = .ok (.ireturn, 1) := by decide +kernel
theorem dJ9_abs_067f4_0 : decode cJ9_abs_067f4 0 = .ok (.lload_n 0, 1) := by decide +kernel
theorem dJ9_abs_067f4_1 : decode cJ9_abs_067f4 1 = .ok (.lconst 0, 1) := by decide +kernel
theorem dJ9_abs_067f4_2 : decode cJ9_abs_067f4 2 = .ok (.lcmp, 1) := by decide +kernel
theorem dJ9_abs_067f4_3 : decode cJ9_abs_067f4 3 = .ok (.ifCond .ge 8, 3) := by decide +kernel
theorem dJ9_abs_067f4_6 : decode cJ9_abs_067f4 6 = .ok (.lload_n 0, 1) := by decide +kernel
theorem dJ9_abs_067f4_7 : decode cJ9_abs_067f4 7 = .ok (.lneg, 1) := by decide +kernel
theorem dJ9_abs_067f4_8 : decode cJ9_abs_067f4 8 = .ok (.goto 4, 3) := by decide +kernel
theorem dJ9_abs_067f4_11 : decode cJ9_abs_067f4 11 = .ok (.lload_n 0, 1) := by decide +kernel
theorem dJ9_abs_067f4_12 : decode cJ9_abs_067f4 12 = .ok (.lreturn, 1) := by decide +kernel
theorem dJ7_fill_53178_0 : decode cJ7_fill_53178 0 = .ok (.iconst 0, 1) := by decide +kernel
theorem dJ7_fill_53178_1 : decode cJ7_fill_53178 1 = .ok (.istore_n 2, 1) := by decide +kernel
theorem dJ7_fill_53178_2 : decode cJ7_fill_53178 2 = .ok (.aload_n 0, 1) := by decide +kernel
theorem dJ7_fill_53178_3 : decode cJ7_fill_53178 3 = .ok (.arraylength, 1) := by decide +kernel
theorem dJ7_fill_53178_4 : decode cJ7_fill_53178 4 = .ok (.istore_n 3, 1) := by decide +kernel
theorem dJ7_fill_53178_5 : decode cJ7_fill_53178 5 = .ok (.iload_n 2, 1) := by decide +kernel
theorem dJ7_fill_53178_6 : decode cJ7_fill_53178 6 = .ok (.iload_n 3, 1) := by decide +kernel
theorem dJ7_fill_53178_7 : decode cJ7_fill_53178 7 = .ok (.if_icmp .ge 13, 3) := by decide +kernel
theorem dJ7_fill_53178_10 : decode cJ7_fill_53178 10 = .ok (.aload_n 0, 1) := by decide +kernel
theorem dJ7_fill_53178_11 : decode cJ7_fill_53178 11 = .ok (.iload_n 2, 1) := by decide +kernel
theorem dJ7_fill_53178_12 : decode cJ7_fill_53178 12 = .ok (.iload_n 1, 1) := by decide +kernel
theorem dJ7_fill_53178_13 : decode cJ7_fill_53178 13 = .ok (.iastore, 1) := by decide +kernel
theorem dJ7_fill_53178_14 : decode cJ7_fill_53178 14 = .ok (.iinc 2 1, 3) := by decide +kernel
theorem dJ7_fill_53178_17 : decode cJ7_fill_53178 17 = .ok (.goto (-12), 3) := by decide +kernel
theorem dJ7_fill_53178_20 : decode cJ7_fill_53178 20 = .ok (.return_, 1) := by decide +kernel
theorem dL_law_0 : decode cL_law 0 = .ok (.new 7, 3) := by decide +kernel
theorem dL_law_3 : decode cL_law 3 = .ok (.dup, 1) := by decide +kernel
theorem dL_law_4 : decode cL_law 4 = .ok (.invokespecial 9, 3) := by decide +kernel
theorem dL_law_7 : decode cL_law 7 = .ok (.astore_n 1, 1) := by decide +kernel
theorem dL_law_8 : decode cL_law 8 = .ok (.new 10, 3) := by decide +kernel
theorem dL_law_11 : decode cL_law 11 = .ok (.dup, 1) := by decide +kernel
theorem dL_law_12 : decode cL_law 12 = .ok (.invokespecial 12, 3) := by decide +kernel
theorem dL_law_15 : decode cL_law 15 = .ok (.astore_n 2, 1) := by decide +kernel
theorem dL_law_16 : decode cL_law 16 = .ok (.iconst 0, 1) := by decide +kernel
theorem dL_law_17 : decode cL_law 17 = .ok (.istore_n 3, 1) := by decide +kernel
theorem dL_law_18 : decode cL_law 18 = .ok (.iload_n 3, 1) := by decide +kernel
theorem dL_law_19 : decode cL_law 19 = .ok (.aload_n 0, 1) := by decide +kernel
theorem dL_law_20 : decode cL_law 20 = .ok (.arraylength, 1) := by decide +kernel
theorem dL_law_21 : decode cL_law 21 = .ok (.iconst 5, 1) := by decide +kernel
theorem dL_law_22 : decode cL_law 22 = .ok (.isub, 1) := by decide +kernel
theorem dL_law_23 : decode cL_law 23 = .ok (.if_icmp .gt 670, 3) := by decide +kernel
theorem dL_law_26 : decode cL_law 26 = .ok (.aload_n 0, 1) := by decide +kernel
theorem dL_law_27 : decode cL_law 27 = .ok (.iload_n 3, 1) := by decide +kernel
theorem dL_law_28 : decode cL_law 28 = .ok (.iaload, 1) := by decide +kernel
theorem dL_law_29 : decode cL_law 29 = .ok (.bipush 31, 2) := by decide +kernel
theorem dL_law_31 : decode cL_law 31 = .ok (.iand, 1) := by decide +kernel
theorem dL_law_32 : decode cL_law 32 = .ok (.tableswitch 655 0 17 #[88, 111, 144, 187, 220, 263, 286, 339, 382, 415, 428, 462, 496, 519, 572, 596, 619, 632], 88) := by decide +kernel
theorem dL_law_120 : decode cL_law 120 = .ok (.aload_n 1, 1) := by decide +kernel
theorem dL_law_121 : decode cL_law 121 = .ok (.aload_n 0, 1) := by decide +kernel
theorem dL_law_122 : decode cL_law 122 = .ok (.iload_n 3, 1) := by decide +kernel
theorem dL_law_123 : decode cL_law 123 = .ok (.iconst 1, 1) := by decide +kernel
theorem dL_law_124 : decode cL_law 124 = .ok (.iadd, 1) := by decide +kernel
theorem dL_law_125 : decode cL_law 125 = .ok (.iaload, 1) := by decide +kernel
theorem dL_law_126 : decode cL_law 126 = .ok (.invokevirtual 13, 3) := by decide +kernel
theorem dL_law_129 : decode cL_law 129 = .ok (.aload_n 2, 1) := by decide +kernel
theorem dL_law_130 : decode cL_law 130 = .ok (.aload_n 0, 1) := by decide +kernel
theorem dL_law_131 : decode cL_law 131 = .ok (.iload_n 3, 1) := by decide +kernel
theorem dL_law_132 : decode cL_law 132 = .ok (.iconst 1, 1) := by decide +kernel
theorem dL_law_133 : decode cL_law 133 = .ok (.iadd, 1) := by decide +kernel
theorem dL_law_134 : decode cL_law 134 = .ok (.iaload, 1) := by decide +kernel
theorem dL_law_135 : decode cL_law 135 = .ok (.invokevirtual 17, 3) := by decide +kernel
theorem dL_law_138 : decode cL_law 138 = .ok (.if_icmp .eq 549, 3) := by decide +kernel
theorem dL_law_141 : decode cL_law 141 = .ok (.iconst 0, 1) := by decide +kernel
theorem dL_law_142 : decode cL_law 142 = .ok (.ireturn, 1) := by decide +kernel
theorem dL_law_143 : decode cL_law 143 = .ok (.aload_n 1, 1) := by decide +kernel
theorem dL_law_144 : decode cL_law 144 = .ok (.aload_n 0, 1) := by decide +kernel
theorem dL_law_145 : decode cL_law 145 = .ok (.iload_n 3, 1) := by decide +kernel
theorem dL_law_146 : decode cL_law 146 = .ok (.iconst 1, 1) := by decide +kernel
theorem dL_law_147 : decode cL_law 147 = .ok (.iadd, 1) := by decide +kernel
theorem dL_law_148 : decode cL_law 148 = .ok (.iaload, 1) := by decide +kernel
theorem dL_law_149 : decode cL_law 149 = .ok (.aload_n 0, 1) := by decide +kernel
theorem dL_law_150 : decode cL_law 150 = .ok (.iload_n 3, 1) := by decide +kernel
theorem dL_law_151 : decode cL_law 151 = .ok (.iconst 2, 1) := by decide +kernel
theorem dL_law_152 : decode cL_law 152 = .ok (.iadd, 1) := by decide +kernel
theorem dL_law_153 : decode cL_law 153 = .ok (.iaload, 1) := by decide +kernel
theorem dL_law_154 : decode cL_law 154 = .ok (.invokevirtual 18, 3) := by decide +kernel
theorem dL_law_157 : decode cL_law 157 = .ok (.aload_n 2, 1) := by decide +kernel
theorem dL_law_158 : decode cL_law 158 = .ok (.aload_n 0, 1) := by decide +kernel
theorem dL_law_159 : decode cL_law 159 = .ok (.iload_n 3, 1) := by decide +kernel
theorem dL_law_160 : decode cL_law 160 = .ok (.iconst 1, 1) := by decide +kernel
theorem dL_law_161 : decode cL_law 161 = .ok (.iadd, 1) := by decide +kernel
theorem dL_law_162 : decode cL_law 162 = .ok (.iaload, 1) := by decide +kernel
theorem dL_law_163 : decode cL_law 163 = .ok (.aload_n 0, 1) := by decide +kernel
theorem dL_law_164 : decode cL_law 164 = .ok (.iload_n 3, 1) := by decide +kernel
theorem dL_law_165 : decode cL_law 165 = .ok (.iconst 2, 1) := by decide +kernel
theorem dL_law_166 : decode cL_law 166 = .ok (.iadd, 1) := by decide +kernel
theorem dL_law_167 : decode cL_law 167 = .ok (.iaload, 1) := by decide +kernel
theorem dL_law_168 : decode cL_law 168 = .ok (.invokevirtual 22, 3) := by decide +kernel
theorem dL_law_171 : decode cL_law 171 = .ok (.if_icmp .eq 516, 3) := by decide +kernel
theorem dL_law_174 : decode cL_law 174 = .ok (.iconst 0, 1) := by decide +kernel
theorem dL_law_175 : decode cL_law 175 = .ok (.ireturn, 1) := by decide +kernel
theorem dL_law_176 : decode cL_law 176 = .ok (.aload_n 1, 1) := by decide +kernel
theorem dL_law_177 : decode cL_law 177 = .ok (.aload_n 0, 1) := by decide +kernel
theorem dL_law_178 : decode cL_law 178 = .ok (.iload_n 3, 1) := by decide +kernel
theorem dL_law_179 : decode cL_law 179 = .ok (.iconst 1, 1) := by decide +kernel
theorem dL_law_180 : decode cL_law 180 = .ok (.iadd, 1) := by decide +kernel
theorem dL_law_181 : decode cL_law 181 = .ok (.iaload, 1) := by decide +kernel
theorem dL_law_182 : decode cL_law 182 = .ok (.aload_n 0, 1) := by decide +kernel
theorem dL_law_183 : decode cL_law 183 = .ok (.iload_n 3, 1) := by decide +kernel
theorem dL_law_184 : decode cL_law 184 = .ok (.iconst 2, 1) := by decide +kernel
theorem dL_law_185 : decode cL_law 185 = .ok (.iadd, 1) := by decide +kernel
theorem dL_law_186 : decode cL_law 186 = .ok (.iaload, 1) := by decide +kernel
theorem dL_law_187 : decode cL_law 187 = .ok (.aload_n 0, 1) := by decide +kernel
theorem dL_law_188 : decode cL_law 188 = .ok (.iload_n 3, 1) := by decide +kernel
theorem dL_law_189 : decode cL_law 189 = .ok (.iconst 3, 1) := by decide +kernel
theorem dL_law_190 : decode cL_law 190 = .ok (.iadd, 1) := by decide +kernel
theorem dL_law_191 : decode cL_law 191 = .ok (.iaload, 1) := by decide +kernel
theorem dL_law_192 : decode cL_law 192 = .ok (.invokevirtual 23, 3) := by decide +kernel
theorem dL_law_195 : decode cL_law 195 = .ok (.aload_n 2, 1) := by decide +kernel
theorem dL_law_196 : decode cL_law 196 = .ok (.aload_n 0, 1) := by decide +kernel
theorem dL_law_197 : decode cL_law 197 = .ok (.iload_n 3, 1) := by decide +kernel
theorem dL_law_198 : decode cL_law 198 = .ok (.iconst 1, 1) := by decide +kernel
theorem dL_law_199 : decode cL_law 199 = .ok (.iadd, 1) := by decide +kernel
theorem dL_law_200 : decode cL_law 200 = .ok (.iaload, 1) := by decide +kernel
theorem dL_law_201 : decode cL_law 201 = .ok (.aload_n 0, 1) := by decide +kernel
theorem dL_law_202 : decode cL_law 202 = .ok (.iload_n 3, 1) := by decide +kernel
theorem dL_law_203 : decode cL_law 203 = .ok (.iconst 2, 1) := by decide +kernel
theorem dL_law_204 : decode cL_law 204 = .ok (.iadd, 1) := by decide +kernel
theorem dL_law_205 : decode cL_law 205 = .ok (.iaload, 1) := by decide +kernel
theorem dL_law_206 : decode cL_law 206 = .ok (.aload_n 0, 1) := by decide +kernel
theorem dL_law_207 : decode cL_law 207 = .ok (.iload_n 3, 1) := by decide +kernel
theorem dL_law_208 : decode cL_law 208 = .ok (.iconst 3, 1) := by decide +kernel
theorem dL_law_209 : decode cL_law 209 = .ok (.iadd, 1) := by decide +kernel
theorem dL_law_210 : decode cL_law 210 = .ok (.iaload, 1) := by decide +kernel
theorem dL_law_211 : decode cL_law 211 = .ok (.invokevirtual 27, 3) := by decide +kernel
theorem dL_law_214 : decode cL_law 214 = .ok (.if_icmp .eq 473, 3) := by decide +kernel
theorem dL_law_217 : decode cL_law 217 = .ok (.iconst 0, 1) := by decide +kernel
theorem dL_law_218 : decode cL_law 218 = .ok (.ireturn, 1) := by decide +kernel
theorem dL_law_219 : decode cL_law 219 = .ok (.aload_n 1, 1) := by decide +kernel
theorem dL_law_220 : decode cL_law 220 = .ok (.aload_n 0, 1) := by decide +kernel
theorem dL_law_221 : decode cL_law 221 = .ok (.iload_n 3, 1) := by decide +kernel
theorem dL_law_222 : decode cL_law 222 = .ok (.iconst 1, 1) := by decide +kernel
theorem dL_law_223 : decode cL_law 223 = .ok (.iadd, 1) := by decide +kernel
theorem dL_law_224 : decode cL_law 224 = .ok (.iaload, 1) := by decide +kernel
theorem dL_law_225 : decode cL_law 225 = .ok (.aload_n 0, 1) := by decide +kernel
theorem dL_law_226 : decode cL_law 226 = .ok (.iload_n 3, 1) := by decide +kernel
theorem dL_law_227 : decode cL_law 227 = .ok (.iconst 2, 1) := by decide +kernel
theorem dL_law_228 : decode cL_law 228 = .ok (.iadd, 1) := by decide +kernel
theorem dL_law_229 : decode cL_law 229 = .ok (.iaload, 1) := by decide +kernel
theorem dL_law_230 : decode cL_law 230 = .ok (.invokevirtual 28, 3) := by decide +kernel
theorem dL_law_233 : decode cL_law 233 = .ok (.aload_n 2, 1) := by decide +kernel
theorem dL_law_234 : decode cL_law 234 = .ok (.aload_n 0, 1) := by decide +kernel
theorem dL_law_235 : decode cL_law 235 = .ok (.iload_n 3, 1) := by decide +kernel
theorem dL_law_236 : decode cL_law 236 = .ok (.iconst 1, 1) := by decide +kernel
theorem dL_law_237 : decode cL_law 237 = .ok (.iadd, 1) := by decide +kernel
theorem dL_law_238 : decode cL_law 238 = .ok (.iaload, 1) := by decide +kernel
theorem dL_law_239 : decode cL_law 239 = .ok (.aload_n 0, 1) := by decide +kernel
theorem dL_law_240 : decode cL_law 240 = .ok (.iload_n 3, 1) := by decide +kernel
theorem dL_law_241 : decode cL_law 241 = .ok (.iconst 2, 1) := by decide +kernel
theorem dL_law_242 : decode cL_law 242 = .ok (.iadd, 1) := by decide +kernel
theorem dL_law_243 : decode cL_law 243 = .ok (.iaload, 1) := by decide +kernel
theorem dL_law_244 : decode cL_law 244 = .ok (.invokevirtual 31, 3) := by decide +kernel
theorem dL_law_247 : decode cL_law 247 = .ok (.if_icmp .eq 440, 3) := by decide +kernel
theorem dL_law_250 : decode cL_law 250 = .ok (.iconst 0, 1) := by decide +kernel
theorem dL_law_251 : decode cL_law 251 = .ok (.ireturn, 1) := by decide +kernel
theorem dL_law_252 : decode cL_law 252 = .ok (.aload_n 1, 1) := by decide +kernel
theorem dL_law_253 : decode cL_law 253 = .ok (.aload_n 0, 1) := by decide +kernel
theorem dL_law_254 : decode cL_law 254 = .ok (.iload_n 3, 1) := by decide +kernel
theorem dL_law_255 : decode cL_law 255 = .ok (.iconst 1, 1) := by decide +kernel
theorem dL_law_256 : decode cL_law 256 = .ok (.iadd, 1) := by decide +kernel
theorem dL_law_257 : decode cL_law 257 = .ok (.iaload, 1) := by decide +kernel
theorem dL_law_258 : decode cL_law 258 = .ok (.aload_n 0, 1) := by decide +kernel
theorem dL_law_259 : decode cL_law 259 = .ok (.iload_n 3, 1) := by decide +kernel
theorem dL_law_260 : decode cL_law 260 = .ok (.iconst 2, 1) := by decide +kernel
theorem dL_law_261 : decode cL_law 261 = .ok (.iadd, 1) := by decide +kernel
theorem dL_law_262 : decode cL_law 262 = .ok (.iaload, 1) := by decide +kernel
theorem dL_law_263 : decode cL_law 263 = .ok (.aload_n 0, 1) := by decide +kernel
theorem dL_law_264 : decode cL_law 264 = .ok (.iload_n 3, 1) := by decide +kernel
theorem dL_law_265 : decode cL_law 265 = .ok (.iconst 3, 1) := by decide +kernel
theorem dL_law_266 : decode cL_law 266 = .ok (.iadd, 1) := by decide +kernel
theorem dL_law_267 : decode cL_law 267 = .ok (.iaload, 1) := by decide +kernel
theorem dL_law_268 : decode cL_law 268 = .ok (.invokevirtual 32, 3) := by decide +kernel
theorem dL_law_271 : decode cL_law 271 = .ok (.aload_n 2, 1) := by decide +kernel
theorem dL_law_272 : decode cL_law 272 = .ok (.aload_n 0, 1) := by decide +kernel
theorem dL_law_273 : decode cL_law 273 = .ok (.iload_n 3, 1) := by decide +kernel
theorem dL_law_274 : decode cL_law 274 = .ok (.iconst 1, 1) := by decide +kernel
theorem dL_law_275 : decode cL_law 275 = .ok (.iadd, 1) := by decide +kernel
theorem dL_law_276 : decode cL_law 276 = .ok (.iaload, 1) := by decide +kernel
theorem dL_law_277 : decode cL_law 277 = .ok (.aload_n 0, 1) := by decide +kernel
theorem dL_law_278 : decode cL_law 278 = .ok (.iload_n 3, 1) := by decide +kernel
theorem dL_law_279 : decode cL_law 279 = .ok (.iconst 2, 1) := by decide +kernel
theorem dL_law_280 : decode cL_law 280 = .ok (.iadd, 1) := by decide +kernel
theorem dL_law_281 : decode cL_law 281 = .ok (.iaload, 1) := by decide +kernel
theorem dL_law_282 : decode cL_law 282 = .ok (.aload_n 0, 1) := by decide +kernel
theorem dL_law_283 : decode cL_law 283 = .ok (.iload_n 3, 1) := by decide +kernel
theorem dL_law_284 : decode cL_law 284 = .ok (.iconst 3, 1) := by decide +kernel
theorem dL_law_285 : decode cL_law 285 = .ok (.iadd, 1) := by decide +kernel
theorem dL_law_286 : decode cL_law 286 = .ok (.iaload, 1) := by decide +kernel
theorem dL_law_287 : decode cL_law 287 = .ok (.invokevirtual 35, 3) := by decide +kernel
theorem dL_law_290 : decode cL_law 290 = .ok (.if_icmp .eq 397, 3) := by decide +kernel
theorem dL_law_293 : decode cL_law 293 = .ok (.iconst 0, 1) := by decide +kernel
theorem dL_law_294 : decode cL_law 294 = .ok (.ireturn, 1) := by decide +kernel
theorem dL_law_295 : decode cL_law 295 = .ok (.aload_n 1, 1) := by decide +kernel
theorem dL_law_296 : decode cL_law 296 = .ok (.aload_n 0, 1) := by decide +kernel
theorem dL_law_297 : decode cL_law 297 = .ok (.iload_n 3, 1) := by decide +kernel
theorem dL_law_298 : decode cL_law 298 = .ok (.iconst 1, 1) := by decide +kernel
theorem dL_law_299 : decode cL_law 299 = .ok (.iadd, 1) := by decide +kernel
theorem dL_law_300 : decode cL_law 300 = .ok (.iaload, 1) := by decide +kernel
theorem dL_law_301 : decode cL_law 301 = .ok (.invokevirtual 36, 3) := by decide +kernel
theorem dL_law_304 : decode cL_law 304 = .ok (.aload_n 2, 1) := by decide +kernel
theorem dL_law_305 : decode cL_law 305 = .ok (.aload_n 0, 1) := by decide +kernel
theorem dL_law_306 : decode cL_law 306 = .ok (.iload_n 3, 1) := by decide +kernel
theorem dL_law_307 : decode cL_law 307 = .ok (.iconst 1, 1) := by decide +kernel
theorem dL_law_308 : decode cL_law 308 = .ok (.iadd, 1) := by decide +kernel
theorem dL_law_309 : decode cL_law 309 = .ok (.iaload, 1) := by decide +kernel
theorem dL_law_310 : decode cL_law 310 = .ok (.invokevirtual 39, 3) := by decide +kernel
theorem dL_law_313 : decode cL_law 313 = .ok (.if_icmp .eq 374, 3) := by decide +kernel
theorem dL_law_316 : decode cL_law 316 = .ok (.iconst 0, 1) := by decide +kernel
theorem dL_law_317 : decode cL_law 317 = .ok (.ireturn, 1) := by decide +kernel
theorem dL_law_318 : decode cL_law 318 = .ok (.aload_n 1, 1) := by decide +kernel
theorem dL_law_319 : decode cL_law 319 = .ok (.aload_n 0, 1) := by decide +kernel
theorem dL_law_320 : decode cL_law 320 = .ok (.iload_n 3, 1) := by decide +kernel
theorem dL_law_321 : decode cL_law 321 = .ok (.iconst 1, 1) := by decide +kernel
theorem dL_law_322 : decode cL_law 322 = .ok (.iadd, 1) := by decide +kernel
theorem dL_law_323 : decode cL_law 323 = .ok (.iaload, 1) := by decide +kernel
theorem dL_law_324 : decode cL_law 324 = .ok (.aload_n 0, 1) := by decide +kernel
theorem dL_law_325 : decode cL_law 325 = .ok (.iload_n 3, 1) := by decide +kernel
theorem dL_law_326 : decode cL_law 326 = .ok (.iconst 2, 1) := by decide +kernel
theorem dL_law_327 : decode cL_law 327 = .ok (.iadd, 1) := by decide +kernel
theorem dL_law_328 : decode cL_law 328 = .ok (.iaload, 1) := by decide +kernel
theorem dL_law_329 : decode cL_law 329 = .ok (.aload_n 0, 1) := by decide +kernel
theorem dL_law_330 : decode cL_law 330 = .ok (.iload_n 3, 1) := by decide +kernel
theorem dL_law_331 : decode cL_law 331 = .ok (.iconst 3, 1) := by decide +kernel
theorem dL_law_332 : decode cL_law 332 = .ok (.iadd, 1) := by decide +kernel
theorem dL_law_333 : decode cL_law 333 = .ok (.iaload, 1) := by decide +kernel
theorem dL_law_334 : decode cL_law 334 = .ok (.aload_n 0, 1) := by decide +kernel
theorem dL_law_335 : decode cL_law 335 = .ok (.iload_n 3, 1) := by decide +kernel
theorem dL_law_336 : decode cL_law 336 = .ok (.iconst 4, 1) := by decide +kernel
theorem dL_law_337 : decode cL_law 337 = .ok (.iadd, 1) := by decide +kernel
theorem dL_law_338 : decode cL_law 338 = .ok (.iaload, 1) := by decide +kernel
theorem dL_law_339 : decode cL_law 339 = .ok (.invokevirtual 40, 3) := by decide +kernel
theorem dL_law_342 : decode cL_law 342 = .ok (.aload_n 2, 1) := by decide +kernel
theorem dL_law_343 : decode cL_law 343 = .ok (.aload_n 0, 1) := by decide +kernel
theorem dL_law_344 : decode cL_law 344 = .ok (.iload_n 3, 1) := by decide +kernel
theorem dL_law_345 : decode cL_law 345 = .ok (.iconst 1, 1) := by decide +kernel
theorem dL_law_346 : decode cL_law 346 = .ok (.iadd, 1) := by decide +kernel
theorem dL_law_347 : decode cL_law 347 = .ok (.iaload, 1) := by decide +kernel
theorem dL_law_348 : decode cL_law 348 = .ok (.aload_n 0, 1) := by decide +kernel
theorem dL_law_349 : decode cL_law 349 = .ok (.iload_n 3, 1) := by decide +kernel
theorem dL_law_350 : decode cL_law 350 = .ok (.iconst 2, 1) := by decide +kernel
theorem dL_law_351 : decode cL_law 351 = .ok (.iadd, 1) := by decide +kernel
theorem dL_law_352 : decode cL_law 352 = .ok (.iaload, 1) := by decide +kernel
theorem dL_law_353 : decode cL_law 353 = .ok (.aload_n 0, 1) := by decide +kernel
theorem dL_law_354 : decode cL_law 354 = .ok (.iload_n 3, 1) := by decide +kernel
theorem dL_law_355 : decode cL_law 355 = .ok (.iconst 3, 1) := by decide +kernel
theorem dL_law_356 : decode cL_law 356 = .ok (.iadd, 1) := by decide +kernel
theorem dL_law_357 : decode cL_law 357 = .ok (.iaload, 1) := by decide +kernel
theorem dL_law_358 : decode cL_law 358 = .ok (.aload_n 0, 1) := by decide +kernel
theorem dL_law_359 : decode cL_law 359 = .ok (.iload_n 3, 1) := by decide +kernel
theorem dL_law_360 : decode cL_law 360 = .ok (.iconst 4, 1) := by decide +kernel
theorem dL_law_361 : decode cL_law 361 = .ok (.iadd, 1) := by decide +kernel
theorem dL_law_362 : decode cL_law 362 = .ok (.iaload, 1) := by decide +kernel
theorem dL_law_363 : decode cL_law 363 = .ok (.invokevirtual 44, 3) := by decide +kernel
theorem dL_law_366 : decode cL_law 366 = .ok (.if_icmp .eq 321, 3) := by decide +kernel
theorem dL_law_369 : decode cL_law 369 = .ok (.iconst 0, 1) := by decide +kernel
theorem dL_law_370 : decode cL_law 370 = .ok (.ireturn, 1) := by decide +kernel
theorem dL_law_371 : decode cL_law 371 = .ok (.aload_n 1, 1) := by decide +kernel
theorem dL_law_372 : decode cL_law 372 = .ok (.aload_n 0, 1) := by decide +kernel
theorem dL_law_373 : decode cL_law 373 = .ok (.iload_n 3, 1) := by decide +kernel
theorem dL_law_374 : decode cL_law 374 = .ok (.iconst 1, 1) := by decide +kernel
theorem dL_law_375 : decode cL_law 375 = .ok (.iadd, 1) := by decide +kernel
theorem dL_law_376 : decode cL_law 376 = .ok (.iaload, 1) := by decide +kernel
theorem dL_law_377 : decode cL_law 377 = .ok (.aload_n 0, 1) := by decide +kernel
theorem dL_law_378 : decode cL_law 378 = .ok (.iload_n 3, 1) := by decide +kernel
theorem dL_law_379 : decode cL_law 379 = .ok (.iconst 2, 1) := by decide +kernel
theorem dL_law_380 : decode cL_law 380 = .ok (.iadd, 1) := by decide +kernel
theorem dL_law_381 : decode cL_law 381 = .ok (.iaload, 1) := by decide +kernel
theorem dL_law_382 : decode cL_law 382 = .ok (.aload_n 0, 1) := by decide +kernel
theorem dL_law_383 : decode cL_law 383 = .ok (.iload_n 3, 1) := by decide +kernel
theorem dL_law_384 : decode cL_law 384 = .ok (.iconst 3, 1) := by decide +kernel
theorem dL_law_385 : decode cL_law 385 = .ok (.iadd, 1) := by decide +kernel
theorem dL_law_386 : decode cL_law 386 = .ok (.iaload, 1) := by decide +kernel
theorem dL_law_387 : decode cL_law 387 = .ok (.invokevirtual 45, 3) := by decide +kernel
theorem dL_law_390 : decode cL_law 390 = .ok (.aload_n 2, 1) := by decide +kernel
theorem dL_law_391 : decode cL_law 391 = .ok (.aload_n 0, 1) := by decide +kernel
theorem dL_law_392 : decode cL_law 392 = .ok (.iload_n 3, 1) := by decide +kernel
theorem dL_law_393 : decode cL_law 393 = .ok (.iconst 1, 1) := by decide +kernel
theorem dL_law_394 : decode cL_law 394 = .ok (.iadd, 1) := by decide +kernel
theorem dL_law_395 : decode cL_law 395 = .ok (.iaload, 1) := by decide +kernel
theorem dL_law_396 : decode cL_law 396 = .ok (.aload_n 0, 1) := by decide +kernel
theorem dL_law_397 : decode cL_law 397 = .ok (.iload_n 3, 1) := by decide +kernel
theorem dL_law_398 : decode cL_law 398 = .ok (.iconst 2, 1) := by decide +kernel
theorem dL_law_399 : decode cL_law 399 = .ok (.iadd, 1) := by decide +kernel
theorem dL_law_400 : decode cL_law 400 = .ok (.iaload, 1) := by decide +kernel
theorem dL_law_401 : decode cL_law 401 = .ok (.aload_n 0, 1) := by decide +kernel
theorem dL_law_402 : decode cL_law 402 = .ok (.iload_n 3, 1) := by decide +kernel
theorem dL_law_403 : decode cL_law 403 = .ok (.iconst 3, 1) := by decide +kernel
theorem dL_law_404 : decode cL_law 404 = .ok (.iadd, 1) := by decide +kernel
theorem dL_law_405 : decode cL_law 405 = .ok (.iaload, 1) := by decide +kernel
theorem dL_law_406 : decode cL_law 406 = .ok (.invokevirtual 48, 3) := by decide +kernel
theorem dL_law_409 : decode cL_law 409 = .ok (.if_icmp .eq 278, 3) := by decide +kernel
theorem dL_law_412 : decode cL_law 412 = .ok (.iconst 0, 1) := by decide +kernel
theorem dL_law_413 : decode cL_law 413 = .ok (.ireturn, 1) := by decide +kernel
theorem dL_law_414 : decode cL_law 414 = .ok (.aload_n 1, 1) := by decide +kernel
theorem dL_law_415 : decode cL_law 415 = .ok (.aload_n 0, 1) := by decide +kernel
theorem dL_law_416 : decode cL_law 416 = .ok (.iload_n 3, 1) := by decide +kernel
theorem dL_law_417 : decode cL_law 417 = .ok (.iconst 1, 1) := by decide +kernel
theorem dL_law_418 : decode cL_law 418 = .ok (.iadd, 1) := by decide +kernel
theorem dL_law_419 : decode cL_law 419 = .ok (.iaload, 1) := by decide +kernel
theorem dL_law_420 : decode cL_law 420 = .ok (.aload_n 0, 1) := by decide +kernel
theorem dL_law_421 : decode cL_law 421 = .ok (.iload_n 3, 1) := by decide +kernel
theorem dL_law_422 : decode cL_law 422 = .ok (.iconst 2, 1) := by decide +kernel
theorem dL_law_423 : decode cL_law 423 = .ok (.iadd, 1) := by decide +kernel
theorem dL_law_424 : decode cL_law 424 = .ok (.iaload, 1) := by decide +kernel
theorem dL_law_425 : decode cL_law 425 = .ok (.invokevirtual 49, 3) := by decide +kernel
theorem dL_law_428 : decode cL_law 428 = .ok (.aload_n 2, 1) := by decide +kernel
theorem dL_law_429 : decode cL_law 429 = .ok (.aload_n 0, 1) := by decide +kernel
theorem dL_law_430 : decode cL_law 430 = .ok (.iload_n 3, 1) := by decide +kernel
theorem dL_law_431 : decode cL_law 431 = .ok (.iconst 1, 1) := by decide +kernel
theorem dL_law_432 : decode cL_law 432 = .ok (.iadd, 1) := by decide +kernel
theorem dL_law_433 : decode cL_law 433 = .ok (.iaload, 1) := by decide +kernel
theorem dL_law_434 : decode cL_law 434 = .ok (.aload_n 0, 1) := by decide +kernel
theorem dL_law_435 : decode cL_law 435 = .ok (.iload_n 3, 1) := by decide +kernel
theorem dL_law_436 : decode cL_law 436 = .ok (.iconst 2, 1) := by decide +kernel
theorem dL_law_437 : decode cL_law 437 = .ok (.iadd, 1) := by decide +kernel
theorem dL_law_438 : decode cL_law 438 = .ok (.iaload, 1) := by decide +kernel
theorem dL_law_439 : decode cL_law 439 = .ok (.invokevirtual 52, 3) := by decide +kernel
theorem dL_law_442 : decode cL_law 442 = .ok (.if_icmp .eq 245, 3) := by decide +kernel
theorem dL_law_445 : decode cL_law 445 = .ok (.iconst 0, 1) := by decide +kernel
theorem dL_law_446 : decode cL_law 446 = .ok (.ireturn, 1) := by decide +kernel
theorem dL_law_447 : decode cL_law 447 = .ok (.aload_n 1, 1) := by decide +kernel
theorem dL_law_448 : decode cL_law 448 = .ok (.invokevirtual 53, 3) := by decide +kernel
theorem dL_law_451 : decode cL_law 451 = .ok (.aload_n 2, 1) := by decide +kernel
theorem dL_law_452 : decode cL_law 452 = .ok (.invokevirtual 57, 3) := by decide +kernel
theorem dL_law_455 : decode cL_law 455 = .ok (.if_icmp .eq 232, 3) := by decide +kernel
theorem dL_law_458 : decode cL_law 458 = .ok (.iconst 0, 1) := by decide +kernel
theorem dL_law_459 : decode cL_law 459 = .ok (.ireturn, 1) := by decide +kernel
theorem dL_law_460 : decode cL_law 460 = .ok (.aload_n 1, 1) := by decide +kernel
theorem dL_law_461 : decode cL_law 461 = .ok (.aload_n 0, 1) := by decide +kernel
theorem dL_law_462 : decode cL_law 462 = .ok (.iload_n 3, 1) := by decide +kernel
theorem dL_law_463 : decode cL_law 463 = .ok (.iconst 1, 1) := by decide +kernel
theorem dL_law_464 : decode cL_law 464 = .ok (.iadd, 1) := by decide +kernel
theorem dL_law_465 : decode cL_law 465 = .ok (.iaload, 1) := by decide +kernel
theorem dL_law_466 : decode cL_law 466 = .ok (.aload_n 0, 1) := by decide +kernel
theorem dL_law_467 : decode cL_law 467 = .ok (.iload_n 3, 1) := by decide +kernel
theorem dL_law_468 : decode cL_law 468 = .ok (.iconst 2, 1) := by decide +kernel
theorem dL_law_469 : decode cL_law 469 = .ok (.iadd, 1) := by decide +kernel
theorem dL_law_470 : decode cL_law 470 = .ok (.iaload, 1) := by decide +kernel
theorem dL_law_471 : decode cL_law 471 = .ok (.invokevirtual 58, 3) := by decide +kernel
theorem dL_law_474 : decode cL_law 474 = .ok (.aload_n 2, 1) := by decide +kernel
theorem dL_law_475 : decode cL_law 475 = .ok (.aload_n 0, 1) := by decide +kernel
theorem dL_law_476 : decode cL_law 476 = .ok (.iload_n 3, 1) := by decide +kernel
theorem dL_law_477 : decode cL_law 477 = .ok (.iconst 1, 1) := by decide +kernel
theorem dL_law_478 : decode cL_law 478 = .ok (.iadd, 1) := by decide +kernel
theorem dL_law_479 : decode cL_law 479 = .ok (.iaload, 1) := by decide +kernel
theorem dL_law_480 : decode cL_law 480 = .ok (.aload_n 0, 1) := by decide +kernel
theorem dL_law_481 : decode cL_law 481 = .ok (.iload_n 3, 1) := by decide +kernel
theorem dL_law_482 : decode cL_law 482 = .ok (.iconst 2, 1) := by decide +kernel
theorem dL_law_483 : decode cL_law 483 = .ok (.iadd, 1) := by decide +kernel
theorem dL_law_484 : decode cL_law 484 = .ok (.iaload, 1) := by decide +kernel
theorem dL_law_485 : decode cL_law 485 = .ok (.invokevirtual 62, 3) := by decide +kernel
theorem dL_law_488 : decode cL_law 488 = .ok (.lcmp, 1) := by decide +kernel
theorem dL_law_489 : decode cL_law 489 = .ok (.ifCond .eq 198, 3) := by decide +kernel
theorem dL_law_492 : decode cL_law 492 = .ok (.iconst 0, 1) := by decide +kernel
theorem dL_law_493 : decode cL_law 493 = .ok (.ireturn, 1) := by decide +kernel
theorem dL_law_494 : decode cL_law 494 = .ok (.aload_n 1, 1) := by decide +kernel
theorem dL_law_495 : decode cL_law 495 = .ok (.aload_n 0, 1) := by decide +kernel
theorem dL_law_496 : decode cL_law 496 = .ok (.iload_n 3, 1) := by decide +kernel
theorem dL_law_497 : decode cL_law 497 = .ok (.iconst 1, 1) := by decide +kernel
theorem dL_law_498 : decode cL_law 498 = .ok (.iadd, 1) := by decide +kernel
theorem dL_law_499 : decode cL_law 499 = .ok (.iaload, 1) := by decide +kernel
theorem dL_law_500 : decode cL_law 500 = .ok (.aload_n 0, 1) := by decide +kernel
theorem dL_law_501 : decode cL_law 501 = .ok (.iload_n 3, 1) := by decide +kernel
theorem dL_law_502 : decode cL_law 502 = .ok (.iconst 2, 1) := by decide +kernel
theorem dL_law_503 : decode cL_law 503 = .ok (.iadd, 1) := by decide +kernel
theorem dL_law_504 : decode cL_law 504 = .ok (.iaload, 1) := by decide +kernel
theorem dL_law_505 : decode cL_law 505 = .ok (.invokevirtual 63, 3) := by decide +kernel
theorem dL_law_508 : decode cL_law 508 = .ok (.aload_n 2, 1) := by decide +kernel
theorem dL_law_509 : decode cL_law 509 = .ok (.aload_n 0, 1) := by decide +kernel
theorem dL_law_510 : decode cL_law 510 = .ok (.iload_n 3, 1) := by decide +kernel
theorem dL_law_511 : decode cL_law 511 = .ok (.iconst 1, 1) := by decide +kernel
theorem dL_law_512 : decode cL_law 512 = .ok (.iadd, 1) := by decide +kernel
theorem dL_law_513 : decode cL_law 513 = .ok (.iaload, 1) := by decide +kernel
theorem dL_law_514 : decode cL_law 514 = .ok (.aload_n 0, 1) := by decide +kernel
theorem dL_law_515 : decode cL_law 515 = .ok (.iload_n 3, 1) := by decide +kernel
theorem dL_law_516 : decode cL_law 516 = .ok (.iconst 2, 1) := by decide +kernel
theorem dL_law_517 : decode cL_law 517 = .ok (.iadd, 1) := by decide +kernel
theorem dL_law_518 : decode cL_law 518 = .ok (.iaload, 1) := by decide +kernel
theorem dL_law_519 : decode cL_law 519 = .ok (.invokevirtual 66, 3) := by decide +kernel
theorem dL_law_522 : decode cL_law 522 = .ok (.lcmp, 1) := by decide +kernel
theorem dL_law_523 : decode cL_law 523 = .ok (.ifCond .eq 164, 3) := by decide +kernel
theorem dL_law_526 : decode cL_law 526 = .ok (.iconst 0, 1) := by decide +kernel
theorem dL_law_527 : decode cL_law 527 = .ok (.ireturn, 1) := by decide +kernel
theorem dL_law_528 : decode cL_law 528 = .ok (.aload_n 1, 1) := by decide +kernel
theorem dL_law_529 : decode cL_law 529 = .ok (.aload_n 0, 1) := by decide +kernel
theorem dL_law_530 : decode cL_law 530 = .ok (.iload_n 3, 1) := by decide +kernel
theorem dL_law_531 : decode cL_law 531 = .ok (.iconst 1, 1) := by decide +kernel
theorem dL_law_532 : decode cL_law 532 = .ok (.iadd, 1) := by decide +kernel
theorem dL_law_533 : decode cL_law 533 = .ok (.iaload, 1) := by decide +kernel
theorem dL_law_534 : decode cL_law 534 = .ok (.invokevirtual 67, 3) := by decide +kernel
theorem dL_law_537 : decode cL_law 537 = .ok (.aload_n 2, 1) := by decide +kernel
theorem dL_law_538 : decode cL_law 538 = .ok (.aload_n 0, 1) := by decide +kernel
theorem dL_law_539 : decode cL_law 539 = .ok (.iload_n 3, 1) := by decide +kernel
theorem dL_law_540 : decode cL_law 540 = .ok (.iconst 1, 1) := by decide +kernel
theorem dL_law_541 : decode cL_law 541 = .ok (.iadd, 1) := by decide +kernel
theorem dL_law_542 : decode cL_law 542 = .ok (.iaload, 1) := by decide +kernel
theorem dL_law_543 : decode cL_law 543 = .ok (.invokevirtual 70, 3) := by decide +kernel
theorem dL_law_546 : decode cL_law 546 = .ok (.if_icmp .eq 141, 3) := by decide +kernel
theorem dL_law_549 : decode cL_law 549 = .ok (.iconst 0, 1) := by decide +kernel
theorem dL_law_550 : decode cL_law 550 = .ok (.ireturn, 1) := by decide +kernel
theorem dL_law_551 : decode cL_law 551 = .ok (.aload_n 1, 1) := by decide +kernel
theorem dL_law_552 : decode cL_law 552 = .ok (.aload_n 0, 1) := by decide +kernel
theorem dL_law_553 : decode cL_law 553 = .ok (.iload_n 3, 1) := by decide +kernel
theorem dL_law_554 : decode cL_law 554 = .ok (.iconst 1, 1) := by decide +kernel
theorem dL_law_555 : decode cL_law 555 = .ok (.iadd, 1) := by decide +kernel
theorem dL_law_556 : decode cL_law 556 = .ok (.iaload, 1) := by decide +kernel
theorem dL_law_557 : decode cL_law 557 = .ok (.aload_n 0, 1) := by decide +kernel
theorem dL_law_558 : decode cL_law 558 = .ok (.iload_n 3, 1) := by decide +kernel
theorem dL_law_559 : decode cL_law 559 = .ok (.iconst 2, 1) := by decide +kernel
theorem dL_law_560 : decode cL_law 560 = .ok (.iadd, 1) := by decide +kernel
theorem dL_law_561 : decode cL_law 561 = .ok (.iaload, 1) := by decide +kernel
theorem dL_law_562 : decode cL_law 562 = .ok (.aload_n 0, 1) := by decide +kernel
theorem dL_law_563 : decode cL_law 563 = .ok (.iload_n 3, 1) := by decide +kernel
theorem dL_law_564 : decode cL_law 564 = .ok (.iconst 3, 1) := by decide +kernel
theorem dL_law_565 : decode cL_law 565 = .ok (.iadd, 1) := by decide +kernel
theorem dL_law_566 : decode cL_law 566 = .ok (.iaload, 1) := by decide +kernel
theorem dL_law_567 : decode cL_law 567 = .ok (.aload_n 0, 1) := by decide +kernel
theorem dL_law_568 : decode cL_law 568 = .ok (.iload_n 3, 1) := by decide +kernel
theorem dL_law_569 : decode cL_law 569 = .ok (.iconst 4, 1) := by decide +kernel
theorem dL_law_570 : decode cL_law 570 = .ok (.iadd, 1) := by decide +kernel
theorem dL_law_571 : decode cL_law 571 = .ok (.iaload, 1) := by decide +kernel
theorem dL_law_572 : decode cL_law 572 = .ok (.invokevirtual 71, 3) := by decide +kernel
theorem dL_law_575 : decode cL_law 575 = .ok (.aload_n 2, 1) := by decide +kernel
theorem dL_law_576 : decode cL_law 576 = .ok (.aload_n 0, 1) := by decide +kernel
theorem dL_law_577 : decode cL_law 577 = .ok (.iload_n 3, 1) := by decide +kernel
theorem dL_law_578 : decode cL_law 578 = .ok (.iconst 1, 1) := by decide +kernel
theorem dL_law_579 : decode cL_law 579 = .ok (.iadd, 1) := by decide +kernel
theorem dL_law_580 : decode cL_law 580 = .ok (.iaload, 1) := by decide +kernel
theorem dL_law_581 : decode cL_law 581 = .ok (.aload_n 0, 1) := by decide +kernel
theorem dL_law_582 : decode cL_law 582 = .ok (.iload_n 3, 1) := by decide +kernel
theorem dL_law_583 : decode cL_law 583 = .ok (.iconst 2, 1) := by decide +kernel
theorem dL_law_584 : decode cL_law 584 = .ok (.iadd, 1) := by decide +kernel
theorem dL_law_585 : decode cL_law 585 = .ok (.iaload, 1) := by decide +kernel
theorem dL_law_586 : decode cL_law 586 = .ok (.aload_n 0, 1) := by decide +kernel
theorem dL_law_587 : decode cL_law 587 = .ok (.iload_n 3, 1) := by decide +kernel
theorem dL_law_588 : decode cL_law 588 = .ok (.iconst 3, 1) := by decide +kernel
theorem dL_law_589 : decode cL_law 589 = .ok (.iadd, 1) := by decide +kernel
theorem dL_law_590 : decode cL_law 590 = .ok (.iaload, 1) := by decide +kernel
theorem dL_law_591 : decode cL_law 591 = .ok (.aload_n 0, 1) := by decide +kernel
theorem dL_law_592 : decode cL_law 592 = .ok (.iload_n 3, 1) := by decide +kernel
theorem dL_law_593 : decode cL_law 593 = .ok (.iconst 4, 1) := by decide +kernel
theorem dL_law_594 : decode cL_law 594 = .ok (.iadd, 1) := by decide +kernel
theorem dL_law_595 : decode cL_law 595 = .ok (.iaload, 1) := by decide +kernel
theorem dL_law_596 : decode cL_law 596 = .ok (.invokevirtual 74, 3) := by decide +kernel
theorem dL_law_599 : decode cL_law 599 = .ok (.if_icmp .eq 88, 3) := by decide +kernel
theorem dL_law_602 : decode cL_law 602 = .ok (.iconst 0, 1) := by decide +kernel
theorem dL_law_603 : decode cL_law 603 = .ok (.ireturn, 1) := by decide +kernel
theorem dL_law_604 : decode cL_law 604 = .ok (.aload_n 1, 1) := by decide +kernel
theorem dL_law_605 : decode cL_law 605 = .ok (.aload_n 0, 1) := by decide +kernel
theorem dL_law_606 : decode cL_law 606 = .ok (.iload_n 3, 1) := by decide +kernel
theorem dL_law_607 : decode cL_law 607 = .ok (.iconst 1, 1) := by decide +kernel
theorem dL_law_608 : decode cL_law 608 = .ok (.iadd, 1) := by decide +kernel
theorem dL_law_609 : decode cL_law 609 = .ok (.iaload, 1) := by decide +kernel
theorem dL_law_610 : decode cL_law 610 = .ok (.invokevirtual 75, 3) := by decide +kernel
theorem dL_law_613 : decode cL_law 613 = .ok (.aload_n 2, 1) := by decide +kernel
theorem dL_law_614 : decode cL_law 614 = .ok (.aload_n 0, 1) := by decide +kernel
theorem dL_law_615 : decode cL_law 615 = .ok (.iload_n 3, 1) := by decide +kernel
theorem dL_law_616 : decode cL_law 616 = .ok (.iconst 1, 1) := by decide +kernel
theorem dL_law_617 : decode cL_law 617 = .ok (.iadd, 1) := by decide +kernel
theorem dL_law_618 : decode cL_law 618 = .ok (.iaload, 1) := by decide +kernel
theorem dL_law_619 : decode cL_law 619 = .ok (.invokevirtual 79, 3) := by decide +kernel
theorem dL_law_622 : decode cL_law 622 = .ok (.lcmp, 1) := by decide +kernel
theorem dL_law_623 : decode cL_law 623 = .ok (.ifCond .eq 64, 3) := by decide +kernel
theorem dL_law_626 : decode cL_law 626 = .ok (.iconst 0, 1) := by decide +kernel
theorem dL_law_627 : decode cL_law 627 = .ok (.ireturn, 1) := by decide +kernel
theorem dL_law_628 : decode cL_law 628 = .ok (.aload_n 1, 1) := by decide +kernel
theorem dL_law_629 : decode cL_law 629 = .ok (.aload_n 0, 1) := by decide +kernel
theorem dL_law_630 : decode cL_law 630 = .ok (.iload_n 3, 1) := by decide +kernel
theorem dL_law_631 : decode cL_law 631 = .ok (.iconst 1, 1) := by decide +kernel
theorem dL_law_632 : decode cL_law 632 = .ok (.iadd, 1) := by decide +kernel
theorem dL_law_633 : decode cL_law 633 = .ok (.iaload, 1) := by decide +kernel
theorem dL_law_634 : decode cL_law 634 = .ok (.invokevirtual 80, 3) := by decide +kernel
theorem dL_law_637 : decode cL_law 637 = .ok (.aload_n 2, 1) := by decide +kernel
theorem dL_law_638 : decode cL_law 638 = .ok (.aload_n 0, 1) := by decide +kernel
theorem dL_law_639 : decode cL_law 639 = .ok (.iload_n 3, 1) := by decide +kernel
theorem dL_law_640 : decode cL_law 640 = .ok (.iconst 1, 1) := by decide +kernel
theorem dL_law_641 : decode cL_law 641 = .ok (.iadd, 1) := by decide +kernel
theorem dL_law_642 : decode cL_law 642 = .ok (.iaload, 1) := by decide +kernel
theorem dL_law_643 : decode cL_law 643 = .ok (.invokevirtual 83, 3) := by decide +kernel
theorem dL_law_646 : decode cL_law 646 = .ok (.if_icmp .eq 41, 3) := by decide +kernel
theorem dL_law_649 : decode cL_law 649 = .ok (.iconst 0, 1) := by decide +kernel
theorem dL_law_650 : decode cL_law 650 = .ok (.ireturn, 1) := by decide +kernel
theorem dL_law_651 : decode cL_law 651 = .ok (.aload_n 1, 1) := by decide +kernel
theorem dL_law_652 : decode cL_law 652 = .ok (.invokevirtual 84, 3) := by decide +kernel
theorem dL_law_655 : decode cL_law 655 = .ok (.aload_n 2, 1) := by decide +kernel
theorem dL_law_656 : decode cL_law 656 = .ok (.invokevirtual 87, 3) := by decide +kernel
theorem dL_law_659 : decode cL_law 659 = .ok (.if_icmp .eq 28, 3) := by decide +kernel
theorem dL_law_662 : decode cL_law 662 = .ok (.iconst 0, 1) := by decide +kernel
theorem dL_law_663 : decode cL_law 663 = .ok (.ireturn, 1) := by decide +kernel
theorem dL_law_664 : decode cL_law 664 = .ok (.aload_n 1, 1) := by decide +kernel
theorem dL_law_665 : decode cL_law 665 = .ok (.aload_n 0, 1) := by decide +kernel
theorem dL_law_666 : decode cL_law 666 = .ok (.iload_n 3, 1) := by decide +kernel
theorem dL_law_667 : decode cL_law 667 = .ok (.iconst 1, 1) := by decide +kernel
theorem dL_law_668 : decode cL_law 668 = .ok (.iadd, 1) := by decide +kernel
theorem dL_law_669 : decode cL_law 669 = .ok (.iaload, 1) := by decide +kernel
theorem dL_law_670 : decode cL_law 670 = .ok (.invokevirtual 88, 3) := by decide +kernel
theorem dL_law_673 : decode cL_law 673 = .ok (.aload_n 2, 1) := by decide +kernel
theorem dL_law_674 : decode cL_law 674 = .ok (.aload_n 0, 1) := by decide +kernel
theorem dL_law_675 : decode cL_law 675 = .ok (.iload_n 3, 1) := by decide +kernel
theorem dL_law_676 : decode cL_law 676 = .ok (.iconst 1, 1) := by decide +kernel
theorem dL_law_677 : decode cL_law 677 = .ok (.iadd, 1) := by decide +kernel
theorem dL_law_678 : decode cL_law 678 = .ok (.iaload, 1) := by decide +kernel
theorem dL_law_679 : decode cL_law 679 = .ok (.invokevirtual 91, 3) := by decide +kernel
theorem dL_law_682 : decode cL_law 682 = .ok (.if_icmp .eq 5, 3) := by decide +kernel
theorem dL_law_685 : decode cL_law 685 = .ok (.iconst 0, 1) := by decide +kernel
theorem dL_law_686 : decode cL_law 686 = .ok (.ireturn, 1) := by decide +kernel
theorem dL_law_687 : decode cL_law 687 = .ok (.iinc 3 5, 3) := by decide +kernel
theorem dL_law_690 : decode cL_law 690 = .ok (.goto (-672), 3) := by decide +kernel
theorem dL_law_693 : decode cL_law 693 = .ok (.iconst 1, 1) := by decide +kernel
theorem dL_law_694 : decode cL_law 694 = .ok (.ireturn, 1) := by decide +kernel
end
section
/-! numbers as Ints -/
def iZ (z : Int) : Int32 := Int32.ofInt z
def lZ (z : Int) : Int64 := Int64.ofInt z
def I32 (z : Int) : Prop := -2147483648 ≤ z ∧ z < 2147483648
def I64 (z : Int) : Prop := -9223372036854775808 ≤ z ∧ z < 9223372036854775808
noncomputable def bZ (P : Prop) : Int := @ite Int P (Classical.propDecidable P) 1 0
theorem bZ_t {P : Prop} (h : P) : bZ P = 1 := by unfold bZ; exact if_pos h
theorem bZ_f {P : Prop} (h : ¬ P) : bZ P = 0 := by unfold bZ; exact if_neg h
theorem bZ_or (P : Prop) : bZ P = 0 ∨ bZ P = 1 := by
  by_cases h : P
  · exact Or.inr (bZ_t h)
  · exact Or.inl (bZ_f h)
theorem bZ_0 {P : Prop} : bZ P = 0 ↔ ¬ P := ⟨fun h q => absurd ((bZ_t q).symm.trans h) (by decide), bZ_f⟩
theorem bZ_n0 {P : Prop} : ¬ bZ P = 0 ↔ P := ⟨fun h => Classical.byContradiction fun q => h (bZ_f q), fun h q => absurd ((bZ_t h).symm.trans q) (by decide)⟩
theorem bZ_I (P : Prop) : I32 (bZ P) := by
  unfold I32
  rcases bZ_or P with h | h <;> rw [h] <;> decide
theorem iZ_add (a b : Int) : iZ a + iZ b = iZ (a + b) := (Int32.ofInt_add a b).symm
theorem iZ_sub (a b : Int) : iZ a - iZ b = iZ (a - b) := (Int32.ofInt_sub a b).symm
theorem iZ_mul (a b : Int) : iZ a * iZ b = iZ (a * b) := (Int32.ofInt_mul a b).symm
theorem iZ_neg (a : Int) : - iZ a = iZ (- a) := (Int32.ofInt_neg a).symm
theorem lZ_add (a b : Int) : lZ a + lZ b = lZ (a + b) := (Int64.ofInt_add a b).symm
theorem lZ_sub (a b : Int) : lZ a - lZ b = lZ (a - b) := (Int64.ofInt_sub a b).symm
theorem lZ_mul (a b : Int) : lZ a * lZ b = lZ (a * b) := (Int64.ofInt_mul a b).symm
theorem lZ_neg (a : Int) : - lZ a = lZ (- a) := (Int64.ofInt_neg a).symm
theorem iZ_toInt {z : Int} (h : I32 z) : (iZ z).toInt = z := Int32.toInt_ofInt_of_le (by have := h.1; omega) (by have := h.2; omega)
theorem lZ_toInt {z : Int} (h : I64 z) : (lZ z).toInt = z := Int64.toInt_ofInt_of_le (by have := h.1; omega) (by have := h.2; omega)
theorem iZ_le {a b : Int} (ha : I32 a) (hb : I32 b) : iZ a ≤ iZ b ↔ a ≤ b := by rw [Int32.le_iff_toInt_le, iZ_toInt ha, iZ_toInt hb]
theorem iZ_lt {a b : Int} (ha : I32 a) (hb : I32 b) : iZ a < iZ b ↔ a < b := by rw [Int32.lt_iff_toInt_lt, iZ_toInt ha, iZ_toInt hb]
theorem iZ_eq {a b : Int} (ha : I32 a) (hb : I32 b) : iZ a = iZ b ↔ a = b := by rw [← Int32.toInt_inj, iZ_toInt ha, iZ_toInt hb]
theorem lZ_le {a b : Int} (ha : I64 a) (hb : I64 b) : lZ a ≤ lZ b ↔ a ≤ b := by rw [Int64.le_iff_toInt_le, lZ_toInt ha, lZ_toInt hb]
theorem lZ_lt {a b : Int} (ha : I64 a) (hb : I64 b) : lZ a < lZ b ↔ a < b := by rw [Int64.lt_iff_toInt_lt, lZ_toInt ha, lZ_toInt hb]
theorem lZ_eq {a b : Int} (ha : I64 a) (hb : I64 b) : lZ a = lZ b ↔ a = b := by rw [← Int64.toInt_inj, lZ_toInt ha, lZ_toInt hb]
theorem I32_0 : I32 0 := by unfold I32; decide
theorem I64_0 : I64 0 := by unfold I64; decide
theorem iZ_0 : iZ 0 = 0 := rfl
theorem lZ_0 : lZ 0 = 0 := rfl
theorem iZ_of (v : Int32) : v = iZ v.toInt := (Int32.ofInt_toInt v).symm
theorem lZ_of (v : Int64) : v = lZ v.toInt := (Int64.ofInt_toInt v).symm
theorem iZ_rng (v : Int32) : I32 v.toInt := ⟨by have := Int32.le_toInt v; omega, by have := Int32.toInt_lt v; omega⟩
theorem iZ_l {z : Int} (h : I32 z) : (iZ z).toInt64 = lZ z := by
  apply Int64.toInt_inj.mp
  rw [Int32.toInt_toInt64, iZ_toInt h, lZ_toInt ⟨by have := h.1; omega, by have := h.2; omega⟩]
theorem lZ_div {a b : Int} (ha : I64 a) (hb : I64 b) : lZ a / lZ b = lZ (a.tdiv b) := (Int64.ofInt_tdiv (by have := ha.1; simpa using this) (by have := ha.2; rw [show Int64.maxValue.toInt = 9223372036854775807 from by decide +kernel]; omega) (by have := hb.1; simpa using this) (by have := hb.2; rw [show Int64.maxValue.toInt = 9223372036854775807 from by decide +kernel]; omega)).symm
theorem iZ_div {a b : Int} (ha : I32 a) (hb : I32 b) : iZ a / iZ b = iZ (a.tdiv b) := (Int32.ofInt_tdiv (by have := ha.1; simpa using this) (by have := ha.2; rw [show Int32.maxValue.toInt = 2147483647 from by decide +kernel]; omega) (by have := hb.1; simpa using this) (by have := hb.2; rw [show Int32.maxValue.toInt = 2147483647 from by decide +kernel]; omega)).symm
theorem lZ_rem {a b : Int} (ha : I64 a) (hb : I64 b) : lZ a - lZ a / lZ b * lZ b = lZ (a.tmod b) := by
  rw [lZ_div ha hb, lZ_mul, lZ_sub]
  congr 1
  have := Int.tdiv_mul_add_tmod a b
  omega
theorem iZ_rem {a b : Int} (ha : I32 a) (hb : I32 b) : iZ a - iZ a / iZ b * iZ b = iZ (a.tmod b) := by
  rw [iZ_div ha hb, iZ_mul, iZ_sub]
  congr 1
  have := Int.tdiv_mul_add_tmod a b
  omega
theorem iZ_in {z : Int} {j n : Nat} (hz : z = (j : Int)) (hj : j < n) (hn : n ≤ 1000) : vp_in (iZ z) n ∧ (iZ z).toNatClampNeg = j := by
  have hI : I32 z := by unfold I32; omega
  refine ⟨vp_in_iff.mpr ?_, ?_⟩
  · rw [iZ_toInt hI]; omega
  · show (iZ z).toInt.toNat = j
    rw [iZ_toInt hI]; omega
/-! worlds -/
abbrev BIG : List Cond := wsL_law
abbrev Gx : Type := Launch × va_G × ClassId × ClassId × ClassId
abbrev Kx : Type := Program × Env × Room × State × MethodId × Array Value × List Frame × Method × Code × (Nat → Prop) × (State → Prop) × Nat
def tysG (g : Gx) : List (ClassId × FieldType) := [(g.2.2.1, .int), (g.2.2.2.1, .long), (g.2.2.2.2, .object "StandingArch$Sheet")]
def nwL : List Cond := [.methodLinkNest RX6 11 yX0_init "StandingArch", .methodLinkNest RX6 51 yX2_init "StandingArch", .methodLinkNest RX6 63 yX4_init "StandingArch", .methodLinkNest RX0 31 yX6_areEdges "StandingArch", .methodLinkNest RX0 35 yX6_isLoad "StandingArch"]
def NWs (U : State) : Prop := ∀ w ∈ nwL, va_Nw w U
theorem NWs.warm {s U : State} (hW : s.WarmedH U.vm) (h : NWs s) : NWs U := by
  intro w hw
  have h1 := h w hw
  simp only [nwL, List.mem_cons, List.not_mem_nil, or_false] at hw
  rcases hw with rfl | rfl | rfl | rfl | rfl <;> exact va_Nw.warmM hW h1
theorem NWs.same {s U : State} (hv : s.vm = U.vm) (h : NWs s) : NWs U := by
  intro w hw
  have h1 := h w hw
  simp only [nwL, List.mem_cons, List.not_mem_nil, or_false] at hw
  rcases hw with rfl | rfl | rfl | rfl | rfl <;> exact va_Nw.same rfl hv h1
def updI (f : Nat → Int) (k : Nat) (z : Int) : Nat → Int := fun j => if j = k then z else f j
def up (σ : Nat → Nat → Int) (c k : Nat) (z : Int) : Nat → Nat → Int := fun c' => if c' = c then updI (σ c) k z else σ c'
def upf (σ : Nat → Nat → Int) (c : Nat) (f : Nat → Int) : Nat → Nat → Int := fun c' => if c' = c then f else σ c'
theorem up_s (σ : Nat → Nat → Int) (c k : Nat) (z : Int) : up σ c k z c k = z := by simp [up, updI]
theorem up_c {σ : Nat → Nat → Int} {c k c' : Nat} {z : Int} (h : c' ≠ c) : up σ c k z c' = σ c' := by simp [up, h]
theorem up_k {σ : Nat → Nat → Int} {c k j : Nat} {z : Int} (h : j ≠ k) : up σ c k z c j = σ c j := by simp [up, updI, h]
theorem up_at (σ : Nat → Nat → Int) (c k : Nat) (z : Int) (c' j : Nat) : up σ c k z c' j = if c' = c ∧ j = k then z else σ c' j := by
  by_cases h : c' = c
  · subst h
    by_cases h2 : j = k
    · subst h2; simp [up, updI]
    · simp [up, updI, h2]
  · simp [up, h]
theorem up_eq (σ : Nat → Nat → Int) (c k : Nat) : up σ c k (σ c k) = σ := by
  funext c' j
  rw [up_at]
  split
  · rename_i h; rw [h.1, h.2]
  · rfl
def WD (nC : Nat) (E : Nat → (Nat → Int) → va_E) (q : Nat → Nat) (σ : Nat → Nat → Int) : va_W := (List.range nC).map (fun c => (q c, E c (σ c)))
theorem WD_get {nC : Nat} {E : Nat → (Nat → Int) → va_E} {q : Nat → Nat} {σ : Nat → Nat → Int} {c : Nat} (h : c < nC) : (WD nC E q σ)[c]? = some (q c, E c (σ c)) := by
  unfold WD
  rw [List.getElem?_map, List.getElem?_range h]
  rfl
theorem WD_set {nC : Nat} {E : Nat → (Nat → Int) → va_E} {q : Nat → Nat} {σ : Nat → Nat → Int} {c : Nat} (f : Nat → Int) : (WD nC E q σ).set c (q c, E c f) = WD nC E q (upf σ c f) := by
  apply List.ext_getElem?
  intro i
  unfold WD
  rw [List.getElem?_set, List.getElem?_map, List.getElem?_map, List.length_map, List.length_range]
  by_cases hi : i < nC
  · rw [List.getElem?_range hi]
    by_cases hc : c = i
    · subst hc; simp [upf, hi]
    · simp [upf, hc, Ne.symm hc]
  · rw [List.getElem?_eq_none (by simpa using hi)]
    by_cases hc : c = i
    · subst hc; simp [hi]
    · simp [hc]
/-! the judgements -/
def GJ (g : Gx) (K : Kx) (ws : va_W) (pc : Nat) (lv : List (Nat × Value)) (st : List Value) : Prop := match K with
  | (p, e, R, s, m, args, below, meth, c, A, Q, nL) => ∀ (H : Heap) (locs : List Loc) (ls : Array Slot), va_P g.2.1 vwCl ws H → va_D A ws → va_S A s.heap H locs → lv_has ls nL lv → W p g.1 e R s m args below meth c H locs 0 0 Q (F0 m pc ls st)
def CX (g : Gx) (K : Kx) (cc : ByteArray) (own : String) (n fr lo : Nat) : Prop := match K with
  | (p, _, R, s, m, args, _, meth, c, A, _, nL) => p.tables.exec = Jvm.exec ∧ c.code = cc ∧ c.maxLocals = nL ∧ s.vm.findClass own = some m.cls ∧ (∀ w ∈ BIG, w.before args s = true) ∧ va_K g.2.1 vwCl (tysG g) s ∧ meth.locks = false ∧ (∀ q : Nat, s.heap.size ≤ q → A q) ∧ R.frames = fr ∧ R.locals = lo ∧ NWs s ∧ nL = n
def QV {S : Type} (g : Gx) (A : Nat → Prop) (Wf : S → va_W) (post : Option Value → S → Prop) : Array Value → State → Outcome → State → Prop := fun _ st oc t => (∃ (v : Option Value) (u : S), oc = .returned v ∧ post v u ∧ va_P g.2.1 vwCl (Wf u) t.heap ∧ va_D A (Wf u)) ∧ va_F A st t
def RT {S : Type} (g : Gx) (K : Kx) (ret : Option FieldType) (Wf : S → va_W) (post : Option Value → S → Prop) : Prop := match K with
  | (_, _, _, s, _, args, below, meth, _, A, Q, _) => meth.sig.returnType = ret ∧ Q = MQ below (QV g A Wf post) args s 0 0 A
def MC {S : Type} (g : Gx) (y : MethodName) (cc : ByteArray) (maxL : Nat) (ret : Option FieldType) (fr lo : Nat) (ws : va_W) (as : List Value) (Wf : S → va_W) (post : Option Value → S → Prop) : Prop :=
  ∀ sz : Nat, Met g.1 y (Cond.code y cc maxL ret :: BIG) ({ frames := fr, cells := 0, slots := 0, locals := lo }) (va_Pc as (fun U => U.heap.size = sz ∧ va_P g.2.1 vwCl ws U.heap ∧ va_K g.2.1 vwCl (tysG g) U ∧ va_D (fun _ => True) ws ∧ NWs U)) (QV g (va_A ws sz) Wf post) 0 0 (va_A ws sz)
def pI {S : Type} (P : Int → S → Prop) : Option Value → S → Prop := fun v u => ∃ z, v = some (.int (iZ z)) ∧ P z u
def pL {S : Type} (P : Int → S → Prop) : Option Value → S → Prop := fun v u => ∃ z, v = some (.long (lZ z)) ∧ P z u
def pV {S : Type} (P : S → Prop) : Option Value → S → Prop := fun v u => v = none ∧ P u
theorem MC_intro {S : Type} {g : Gx} {y : MethodName} {cc : ByteArray} {maxL : Nat} {ret : Option FieldType} {fr lo : Nat} {ws : va_W} {as : List Value} {Wf : S → va_W} {post : Option Value → S → Prop} {own : String} (hown : y.cls = own) (hy : plainName y.cls = true) (hlen : (lg_sl as).length ≤ maxL)
    (body : ∀ K : Kx, CX g K cc own maxL fr lo → RT g K ret Wf post → GJ g K ws 0 (lv_args 0 as) []) : MC g y cc maxL ret fr lo ws as Wf post := by
  intro sz
  refine Met.ofW (cc := cc) (maxL := maxL) (ret := ret) hy rfl ?_
  intro p e s m args below meth c s₁ B hml hv
  obtain ⟨rfl, hsz, hP, hK, hD0, hN⟩ := hv
  have hts := atoms_spec (ws := Cond.code y cc maxL ret :: BIG) B.pre
  subst hsz
  subst hown
  have h := body (p, e, (headSpec (Cond.code y cc maxL ret :: BIG) ({ frames := fr, cells := 0, slots := 0, locals := lo })).room, s, m, as.toArray, below, meth, c, va_A ws s.heap.size, MQ below (QV g (va_A ws s.heap.size) Wf post) as.toArray s 0 0 (va_A ws s.heap.size), maxL)
    ⟨B.exec, B.bytes, hml, findClass_of_methodNamed B.named, fun w hw => hts w (List.mem_cons_of_mem _ hw), hK, B.notSynchronized, fun q h => Or.inr h, rfl, rfl, hN, rfl⟩ ⟨B.returns, rfl⟩
  rw [lg_entry_eq]
  exact h s.heap [] _ hP (hD0.self) va_S.rf (lv_entry as hlen)
theorem BIG_good : BIG.all goodWord = true := by decide +kernel
theorem good_code {y : MethodName} {cc : ByteArray} {maxL : Nat} {ret : Option FieldType} (h : Cond.code y cc maxL ret ∈ BIG) : GoodIn BIG (Cond.code y cc maxL ret :: BIG) := by
  intro w hw
  have hm : w ∈ BIG := (List.mem_cons.mp hw).elim (fun e => e ▸ h) id
  exact ⟨hm, good_of_word (List.all_eq_true.mp BIG_good w hm)⟩
theorem good_V {own : String} {idx : Nat} {C : String} {y : MethodName} {cc : ByteArray} {maxL : Nat} {ret : Option FieldType} (h1 : Cond.methodLink own idx y ∈ BIG) (h2 : Cond.instanceMethod y ∈ BIG) (h3 : Cond.selects C y y ∈ BIG) (h4 : Cond.initialized C ∈ BIG) (h : Cond.code y cc maxL ret ∈ BIG) : GoodIn BIG (wsV own idx C y (Cond.code y cc maxL ret :: BIG)) := by
  refine goodIn_app (fun w hw => ?_) (good_code h)
  have hm : w ∈ BIG := by
    simp only [List.mem_cons, List.not_mem_nil, or_false] at hw
    rcases hw with rfl | rfl | rfl | rfl <;> assumption
  exact ⟨hm, good_of_word (List.all_eq_true.mp BIG_good w hm)⟩
theorem good_S {own : String} {idx : Nat} {y : MethodName} {cc : ByteArray} {maxL : Nat} {ret : Option FieldType} (h1 : Cond.methodLink own idx y ∈ BIG) (h2 : Cond.static y ∈ BIG) (h4 : Cond.initialized own ∈ BIG) (h : Cond.code y cc maxL ret ∈ BIG) : GoodIn BIG (wsS own idx y (Cond.code y cc maxL ret :: BIG)) := by
  refine goodIn_app (fun w hw => ?_) (good_code h)
  have hm : w ∈ BIG := by
    simp only [List.mem_cons, List.not_mem_nil, or_false] at hw
    rcases hw with rfl | rfl | rfl <;> assumption
  exact ⟨hm, good_of_word (List.all_eq_true.mp BIG_good w hm)⟩
theorem blind_MC {g : Gx} {as : List Value} {sz : Nat} {ws : va_W} : FrameBlind (va_Pc as (fun U => U.heap.size = sz ∧ va_P g.2.1 vwCl ws U.heap ∧ va_K g.2.1 vwCl (tysG g) U ∧ va_D (fun _ => True) ws ∧ NWs U)) := by
  intro a U gg mk q
  obtain ⟨q0, q1, qP, qK, qD, qN⟩ := q
  exact ⟨q0, q1, qP, va_K.moved (u := U) (U := U.calling gg mk a) (Vm.Alike.refl U.vm) qK, qD, NWs.same (s := U) (U := U.calling gg mk a) rfl qN⟩
/-- behind any call, whatever the answer -/
theorem w_call {p : Program} {l : Launch} {e : Env} {R : Room} {s : State} {m : MethodId} {args : Array Value} {below : List Frame} {meth : Method} {c : Code} {H : Heap} {locs : List Loc} {cells slots : Nat} {Q : State → Prop} {pc : Nat} {ls : Array Slot} {rest st0 : List Value} {a : Array Value} {A0 A1 : Nat → Prop} {H0 : Heap} {mc ms : Nat} {free : Addr → Prop} {S : Type} {g : Gx} {Wf : S → va_W} {post : Option Value → S → Prop}
    (hr : va_Run p l e R s m args below meth c H locs cells slots mc ms (F0 m pc ls st0) rest (QV g A1 Wf post a) free) (hS : va_S A0 H0 H locs) (hA : ∀ q, q < H.size → A1 q → A0 q) (hf : ∀ q, free q → A0 q)
    (kk : ∀ (v : Option Value) (u : S) (H1 : Heap) (locs1 : List Loc), post v u → va_P g.2.1 vwCl (Wf u) H1 → va_D A1 (Wf u) → H.size ≤ H1.size → (∀ q : Nat, q < H.size → ¬ A1 q → H1[q]? = H[q]?) → va_S A0 H0 H1 locs1 → W p l e R s m args below meth c H1 locs1 (cells + mc) (slots + ms) Q (F0 m (pc + 3) ls (v.toList ++ rest))) : W p l e R s m args below meth c H locs cells slots Q (F0 m pc ls st0) := by
  intro T hT X
  obtain ⟨v, st₀, t, T', L, h0, X', hL, e1, e2, ⟨⟨v2, u, hv, hp, hb, hd⟩, hz, hk⟩, st⟩ := hr T hT X
  cases hv
  rw [h0] at hz hk
  obtain ⟨t2, a1, b1⟩ := kk v u T'.heap (locs ++ L) hp (by rw [e1]; exact hb) hd (by rw [e1]; exact hz) (fun q h1 h2 => by rw [e1]; exact hk q h1 h2)
    ⟨Nat.le_trans hS.1 (by rw [e1]; exact hz), fun q h1 h2 => by rw [e1, hk q (Nat.lt_of_lt_of_le h1 hS.1) (fun z => h2 (hA q (Nat.lt_of_lt_of_le h1 hS.1) z))]; exact hS.2.1 q h1 h2, fun q hq => by
      rcases List.mem_append.mp hq with h | h
      · exact hS.2.2 q h
      · exact hf _ (hL q h)⟩ T' rfl X'
  exact ⟨t2, st t2 a1, b1⟩
end
section
theorem wcl_L_7 : Cond.classLink RL 7 RX6 ∈ BIG := List.mem_of_getElem? (i := 0) (by decide +kernel)
theorem wit_X6 : Cond.instantiable RX6 8 ∈ BIG := List.mem_of_getElem? (i := 1) (by decide +kernel)
theorem win_X6 : Cond.initialized RX6 ∈ BIG := List.mem_of_getElem? (i := 2) (by decide +kernel)
theorem wcl_L_10 : Cond.classLink RL 10 RX7 ∈ BIG := List.mem_of_getElem? (i := 3) (by decide +kernel)
theorem wit_X7 : Cond.instantiable RX7 22 ∈ BIG := List.mem_of_getElem? (i := 4) (by decide +kernel)
theorem win_X7 : Cond.initialized RX7 ∈ BIG := List.mem_of_getElem? (i := 5) (by decide +kernel)
theorem wm_L_9 : Cond.methodLink RL 9 yX6_init ∈ BIG := List.mem_of_getElem? (i := 6) (by decide +kernel)
theorem wi_X6_init : Cond.instanceMethod yX6_init ∈ BIG := List.mem_of_getElem? (i := 7) (by decide +kernel)
theorem wc_X6_init : Cond.code yX6_init cX6_init 2 none ∈ BIG := List.mem_of_getElem? (i := 8) (by decide +kernel)
theorem wm_X6_3 : Cond.methodLink RX6 3 objectInit ∈ BIG := List.mem_of_getElem? (i := 9) (by decide +kernel)
theorem wi_objectInit : Cond.instanceMethod objectInit ∈ BIG := List.mem_of_getElem? (i := 10) (by decide +kernel)
theorem wc_objectInit : Cond.code objectInit ⟨#[0xb1]⟩ 1 none ∈ BIG := List.mem_of_getElem? (i := 11) (by decide +kernel)
theorem wcl_X6_9 : Cond.classLink RX6 9 RX0 ∈ BIG := List.mem_of_getElem? (i := 12) (by decide +kernel)
theorem wit_X0 : Cond.instantiable RX0 6 ∈ BIG := List.mem_of_getElem? (i := 13) (by decide +kernel)
theorem win_X0 : Cond.initialized RX0 ∈ BIG := List.mem_of_getElem? (i := 14) (by decide +kernel)
theorem wf_X6_12 : Cond.fieldLink RX6 12 "StandingArch" "arch" "LStandingArch$Arch;" ∈ BIG := List.mem_of_getElem? (i := 15) (by decide +kernel)
theorem wcl_X6_16 : Cond.classLink RX6 16 RX5 ∈ BIG := List.mem_of_getElem? (i := 16) (by decide +kernel)
theorem wit_X5 : Cond.instantiable RX5 5 ∈ BIG := List.mem_of_getElem? (i := 17) (by decide +kernel)
theorem win_X5 : Cond.initialized RX5 ∈ BIG := List.mem_of_getElem? (i := 18) (by decide +kernel)
theorem wf_X6_21 : Cond.fieldLink RX6 21 "StandingArch" "triples" "LStandingArch$Triples;" ∈ BIG := List.mem_of_getElem? (i := 19) (by decide +kernel)
theorem wcl_X6_25 : Cond.classLink RX6 25 RX3 ∈ BIG := List.mem_of_getElem? (i := 20) (by decide +kernel)
theorem wit_X3 : Cond.instantiable RX3 7 ∈ BIG := List.mem_of_getElem? (i := 21) (by decide +kernel)
theorem win_X3 : Cond.initialized RX3 ∈ BIG := List.mem_of_getElem? (i := 22) (by decide +kernel)
theorem wf_X6_28 : Cond.fieldLink RX6 28 "StandingArch" "leastLine" "LStandingArch$LeastLine;" ∈ BIG := List.mem_of_getElem? (i := 23) (by decide +kernel)
theorem wcl_X6_32 : Cond.classLink RX6 32 RX1 ∈ BIG := List.mem_of_getElem? (i := 24) (by decide +kernel)
theorem wit_X1 : Cond.instantiable RX1 3 ∈ BIG := List.mem_of_getElem? (i := 25) (by decide +kernel)
theorem win_X1 : Cond.initialized RX1 ∈ BIG := List.mem_of_getElem? (i := 26) (by decide +kernel)
theorem wf_X6_35 : Cond.fieldLink RX6 35 "StandingArch" "bars" "LStandingArch$Bars;" ∈ BIG := List.mem_of_getElem? (i := 27) (by decide +kernel)
theorem wcl_X6_39 : Cond.classLink RX6 39 RX4 ∈ BIG := List.mem_of_getElem? (i := 28) (by decide +kernel)
theorem wf_X6_41 : Cond.fieldLink RX6 41 "StandingArch" "sheets" "[LStandingArch$Sheet;" ∈ BIG := List.mem_of_getElem? (i := 29) (by decide +kernel)
theorem war_int : Cond.arrayClass .int ∈ BIG := List.mem_of_getElem? (i := 30) (by decide +kernel)
theorem wf_X6_45 : Cond.fieldLink RX6 45 "StandingArch" "trial" "[I" ∈ BIG := List.mem_of_getElem? (i := 31) (by decide +kernel)
theorem wcl_X6_49 : Cond.classLink RX6 49 RX2 ∈ BIG := List.mem_of_getElem? (i := 32) (by decide +kernel)
theorem wit_X2 : Cond.instantiable RX2 2 ∈ BIG := List.mem_of_getElem? (i := 33) (by decide +kernel)
theorem win_X2 : Cond.initialized RX2 ∈ BIG := List.mem_of_getElem? (i := 34) (by decide +kernel)
theorem wf_X6_52 : Cond.fieldLink RX6 52 "StandingArch" "answer" "LStandingArch$Fraction;" ∈ BIG := List.mem_of_getElem? (i := 35) (by decide +kernel)
theorem wf_X6_56 : Cond.fieldLink RX6 56 "StandingArch" "worst" "LStandingArch$Fraction;" ∈ BIG := List.mem_of_getElem? (i := 36) (by decide +kernel)
theorem wit_X4 : Cond.instantiable RX4 4 ∈ BIG := List.mem_of_getElem? (i := 37) (by decide +kernel)
theorem win_X4 : Cond.initialized RX4 ∈ BIG := List.mem_of_getElem? (i := 38) (by decide +kernel)
theorem wi_X0_init : Cond.instanceMethod yX0_init ∈ BIG := List.mem_of_getElem? (i := 39) (by decide +kernel)
theorem wc_X0_init : Cond.code yX0_init cX0_init 1 none ∈ BIG := List.mem_of_getElem? (i := 40) (by decide +kernel)
theorem wm_X0_3 : Cond.methodLink RX0 3 objectInit ∈ BIG := List.mem_of_getElem? (i := 41) (by decide +kernel)
theorem wf_X0_9 : Cond.fieldLink RX0 9 "StandingArch$Arch" "place" "[I" ∈ BIG := List.mem_of_getElem? (i := 42) (by decide +kernel)
theorem wf_X0_15 : Cond.fieldLink RX0 15 "StandingArch$Arch" "low" "[I" ∈ BIG := List.mem_of_getElem? (i := 43) (by decide +kernel)
theorem wf_X0_18 : Cond.fieldLink RX0 18 "StandingArch$Arch" "high" "[I" ∈ BIG := List.mem_of_getElem? (i := 44) (by decide +kernel)
theorem wf_X0_21 : Cond.fieldLink RX0 21 "StandingArch$Arch" "weight" "[I" ∈ BIG := List.mem_of_getElem? (i := 45) (by decide +kernel)
theorem wf_X0_24 : Cond.fieldLink RX0 24 "StandingArch$Arch" "moment" "[I" ∈ BIG := List.mem_of_getElem? (i := 46) (by decide +kernel)
theorem wm_X6_18 : Cond.methodLink RX6 18 yX5_init ∈ BIG := List.mem_of_getElem? (i := 47) (by decide +kernel)
theorem wi_X5_init : Cond.instanceMethod yX5_init ∈ BIG := List.mem_of_getElem? (i := 48) (by decide +kernel)
theorem wc_X5_init : Cond.code yX5_init cX5_init 2 none ∈ BIG := List.mem_of_getElem? (i := 49) (by decide +kernel)
theorem wm_X5_1 : Cond.methodLink RX5 1 objectInit ∈ BIG := List.mem_of_getElem? (i := 50) (by decide +kernel)
theorem war_long : Cond.arrayClass .long ∈ BIG := List.mem_of_getElem? (i := 51) (by decide +kernel)
theorem wf_X5_9 : Cond.fieldLink RX5 9 "StandingArch$Triples" "middle" "[J" ∈ BIG := List.mem_of_getElem? (i := 52) (by decide +kernel)
theorem wf_X5_13 : Cond.fieldLink RX5 13 "StandingArch$Triples" "room" "[J" ∈ BIG := List.mem_of_getElem? (i := 53) (by decide +kernel)
theorem wf_X5_16 : Cond.fieldLink RX5 16 "StandingArch$Triples" "bend" "[J" ∈ BIG := List.mem_of_getElem? (i := 54) (by decide +kernel)
theorem wf_X5_19 : Cond.fieldLink RX5 19 "StandingArch$Triples" "arch" "LStandingArch$Arch;" ∈ BIG := List.mem_of_getElem? (i := 55) (by decide +kernel)
theorem wm_X6_27 : Cond.methodLink RX6 27 yX3_init ∈ BIG := List.mem_of_getElem? (i := 56) (by decide +kernel)
theorem wi_X3_init : Cond.instanceMethod yX3_init ∈ BIG := List.mem_of_getElem? (i := 57) (by decide +kernel)
theorem wc_X3_init : Cond.code yX3_init cX3_init 2 none ∈ BIG := List.mem_of_getElem? (i := 58) (by decide +kernel)
theorem wm_X3_1 : Cond.methodLink RX3 1 objectInit ∈ BIG := List.mem_of_getElem? (i := 59) (by decide +kernel)
theorem wf_X3_7 : Cond.fieldLink RX3 7 "StandingArch$LeastLine" "pushBelow" "J" ∈ BIG := List.mem_of_getElem? (i := 60) (by decide +kernel)
theorem wf_X3_13 : Cond.fieldLink RX3 13 "StandingArch$LeastLine" "startBelow" "J" ∈ BIG := List.mem_of_getElem? (i := 61) (by decide +kernel)
theorem wf_X3_16 : Cond.fieldLink RX3 16 "StandingArch$LeastLine" "slopeBelow" "J" ∈ BIG := List.mem_of_getElem? (i := 62) (by decide +kernel)
theorem wf_X3_19 : Cond.fieldLink RX3 19 "StandingArch$LeastLine" "arch" "LStandingArch$Arch;" ∈ BIG := List.mem_of_getElem? (i := 63) (by decide +kernel)
theorem wm_X6_34 : Cond.methodLink RX6 34 yX1_init ∈ BIG := List.mem_of_getElem? (i := 64) (by decide +kernel)
theorem wi_X1_init : Cond.instanceMethod yX1_init ∈ BIG := List.mem_of_getElem? (i := 65) (by decide +kernel)
theorem wc_X1_init : Cond.code yX1_init cX1_init 2 none ∈ BIG := List.mem_of_getElem? (i := 66) (by decide +kernel)
theorem wm_X1_3 : Cond.methodLink RX1 3 objectInit ∈ BIG := List.mem_of_getElem? (i := 67) (by decide +kernel)
theorem wf_X1_9 : Cond.fieldLink RX1 9 "StandingArch$Bars" "chosen" "[I" ∈ BIG := List.mem_of_getElem? (i := 68) (by decide +kernel)
theorem wf_X1_15 : Cond.fieldLink RX1 15 "StandingArch$Bars" "arch" "LStandingArch$Arch;" ∈ BIG := List.mem_of_getElem? (i := 69) (by decide +kernel)
theorem wi_X2_init : Cond.instanceMethod yX2_init ∈ BIG := List.mem_of_getElem? (i := 70) (by decide +kernel)
theorem wc_X2_init : Cond.code yX2_init cX2_init 1 none ∈ BIG := List.mem_of_getElem? (i := 71) (by decide +kernel)
theorem wm_X2_1 : Cond.methodLink RX2 1 objectInit ∈ BIG := List.mem_of_getElem? (i := 72) (by decide +kernel)
theorem wf_X2_7 : Cond.fieldLink RX2 7 "StandingArch$Fraction" "above" "J" ∈ BIG := List.mem_of_getElem? (i := 73) (by decide +kernel)
theorem wf_X2_13 : Cond.fieldLink RX2 13 "StandingArch$Fraction" "below" "J" ∈ BIG := List.mem_of_getElem? (i := 74) (by decide +kernel)
theorem wm_X6_59 : Cond.methodLink RX6 59 yX0_renew ∈ BIG := List.mem_of_getElem? (i := 75) (by decide +kernel)
theorem wi_X0_renew : Cond.instanceMethod yX0_renew ∈ BIG := List.mem_of_getElem? (i := 76) (by decide +kernel)
theorem wse_X0_renew : Cond.selects RX0 yX0_renew yX0_renew ∈ BIG := List.mem_of_getElem? (i := 77) (by decide +kernel)
theorem wc_X0_renew : Cond.code yX0_renew cX0_renew 3 none ∈ BIG := List.mem_of_getElem? (i := 78) (by decide +kernel)
theorem wf_X0_27 : Cond.fieldLink RX0 27 "StandingArch$Arch" "last" "I" ∈ BIG := List.mem_of_getElem? (i := 79) (by decide +kernel)
theorem wi_X4_init : Cond.instanceMethod yX4_init ∈ BIG := List.mem_of_getElem? (i := 80) (by decide +kernel)
theorem wc_X4_init : Cond.code yX4_init cX4_init 1 none ∈ BIG := List.mem_of_getElem? (i := 81) (by decide +kernel)
theorem wm_X4_3 : Cond.methodLink RX4 3 objectInit ∈ BIG := List.mem_of_getElem? (i := 82) (by decide +kernel)
theorem wf_X4_9 : Cond.fieldLink RX4 9 "StandingArch$Sheet" "items" "[I" ∈ BIG := List.mem_of_getElem? (i := 83) (by decide +kernel)
theorem wm_L_12 : Cond.methodLink RL 12 yX7_init ∈ BIG := List.mem_of_getElem? (i := 84) (by decide +kernel)
theorem wi_X7_init : Cond.instanceMethod yX7_init ∈ BIG := List.mem_of_getElem? (i := 85) (by decide +kernel)
theorem wc_X7_init : Cond.code yX7_init cX7_init 2 none ∈ BIG := List.mem_of_getElem? (i := 86) (by decide +kernel)
theorem wm_X7_1 : Cond.methodLink RX7 1 objectInit ∈ BIG := List.mem_of_getElem? (i := 87) (by decide +kernel)
theorem wf_X7_7 : Cond.fieldLink RX7 7 "StandingArchModel" "n" "I" ∈ BIG := List.mem_of_getElem? (i := 88) (by decide +kernel)
theorem wf_X7_13 : Cond.fieldLink RX7 13 "StandingArchModel" "xs" "[I" ∈ BIG := List.mem_of_getElem? (i := 89) (by decide +kernel)
theorem wf_X7_17 : Cond.fieldLink RX7 17 "StandingArchModel" "lows" "[I" ∈ BIG := List.mem_of_getElem? (i := 90) (by decide +kernel)
theorem wf_X7_20 : Cond.fieldLink RX7 20 "StandingArchModel" "highs" "[I" ∈ BIG := List.mem_of_getElem? (i := 91) (by decide +kernel)
theorem wf_X7_23 : Cond.fieldLink RX7 23 "StandingArchModel" "loads" "[I" ∈ BIG := List.mem_of_getElem? (i := 92) (by decide +kernel)
theorem wf_X7_26 : Cond.fieldLink RX7 26 "StandingArchModel" "lanes" "[I" ∈ BIG := List.mem_of_getElem? (i := 93) (by decide +kernel)
theorem wf_X7_29 : Cond.fieldLink RX7 29 "StandingArchModel" "sizes" "[I" ∈ BIG := List.mem_of_getElem? (i := 94) (by decide +kernel)
theorem wf_X7_32 : Cond.fieldLink RX7 32 "StandingArchModel" "items" "[I" ∈ BIG := List.mem_of_getElem? (i := 95) (by decide +kernel)
theorem wf_X7_35 : Cond.fieldLink RX7 35 "StandingArchModel" "row" "[J" ∈ BIG := List.mem_of_getElem? (i := 96) (by decide +kernel)
theorem wf_X7_39 : Cond.fieldLink RX7 39 "StandingArchModel" "spot" "[J" ∈ BIG := List.mem_of_getElem? (i := 97) (by decide +kernel)
theorem wf_X7_42 : Cond.fieldLink RX7 42 "StandingArchModel" "best" "[J" ∈ BIG := List.mem_of_getElem? (i := 98) (by decide +kernel)
theorem wf_X7_45 : Cond.fieldLink RX7 45 "StandingArchModel" "bar" "[I" ∈ BIG := List.mem_of_getElem? (i := 99) (by decide +kernel)
theorem wf_X7_48 : Cond.fieldLink RX7 48 "StandingArchModel" "keptLoads" "[I" ∈ BIG := List.mem_of_getElem? (i := 100) (by decide +kernel)
theorem wm_X7_51 : Cond.methodLink RX7 51 yX7_begin ∈ BIG := List.mem_of_getElem? (i := 101) (by decide +kernel)
theorem wi_X7_begin : Cond.instanceMethod yX7_begin ∈ BIG := List.mem_of_getElem? (i := 102) (by decide +kernel)
theorem wse_X7_begin : Cond.selects RX7 yX7_begin yX7_begin ∈ BIG := List.mem_of_getElem? (i := 103) (by decide +kernel)
theorem wc_X7_begin : Cond.code yX7_begin cX7_begin 3 none ∈ BIG := List.mem_of_getElem? (i := 104) (by decide +kernel)
theorem wm_L_13 : Cond.methodLink RL 13 yX6_joints ∈ BIG := List.mem_of_getElem? (i := 105) (by decide +kernel)
theorem wi_X6_joints : Cond.instanceMethod yX6_joints ∈ BIG := List.mem_of_getElem? (i := 106) (by decide +kernel)
theorem wse_X6_joints : Cond.selects RX6 yX6_joints yX6_joints ∈ BIG := List.mem_of_getElem? (i := 107) (by decide +kernel)
theorem wc_X6_joints : Cond.code yX6_joints cX6_joints 2 (some .int) ∈ BIG := List.mem_of_getElem? (i := 108) (by decide +kernel)
theorem wm_L_17 : Cond.methodLink RL 17 yX7_joints ∈ BIG := List.mem_of_getElem? (i := 109) (by decide +kernel)
theorem wi_X7_joints : Cond.instanceMethod yX7_joints ∈ BIG := List.mem_of_getElem? (i := 110) (by decide +kernel)
theorem wse_X7_joints : Cond.selects RX7 yX7_joints yX7_joints ∈ BIG := List.mem_of_getElem? (i := 111) (by decide +kernel)
theorem wc_X7_joints : Cond.code yX7_joints cX7_joints 2 (some .int) ∈ BIG := List.mem_of_getElem? (i := 112) (by decide +kernel)
theorem wk_X7_55 : Cond.constantLong RX7 55 (2) ∈ BIG := List.mem_of_getElem? (i := 113) (by decide +kernel)
theorem wk_X7_57 : Cond.constantLong RX7 57 (6) ∈ BIG := List.mem_of_getElem? (i := 114) (by decide +kernel)
theorem wm_X7_59 : Cond.methodLink RX7 59 yX7_in ∈ BIG := List.mem_of_getElem? (i := 115) (by decide +kernel)
theorem wst_X7_in : Cond.static yX7_in ∈ BIG := List.mem_of_getElem? (i := 116) (by decide +kernel)
theorem wc_X7_in : Cond.code yX7_in cX7_in 6 (some .boolean) ∈ BIG := List.mem_of_getElem? (i := 117) (by decide +kernel)
theorem wm_L_18 : Cond.methodLink RL 18 yX6_at ∈ BIG := List.mem_of_getElem? (i := 118) (by decide +kernel)
theorem wi_X6_at : Cond.instanceMethod yX6_at ∈ BIG := List.mem_of_getElem? (i := 119) (by decide +kernel)
theorem wse_X6_at : Cond.selects RX6 yX6_at yX6_at ∈ BIG := List.mem_of_getElem? (i := 120) (by decide +kernel)
theorem wc_X6_at : Cond.code yX6_at cX6_at 4 (some .int) ∈ BIG := List.mem_of_getElem? (i := 121) (by decide +kernel)
theorem wf_X6_64 : Cond.fieldLink RX6 64 "StandingArch$Arch" "last" "I" ∈ BIG := List.mem_of_getElem? (i := 122) (by decide +kernel)
theorem wf_X6_68 : Cond.fieldLink RX6 68 "StandingArch$Arch" "place" "[I" ∈ BIG := List.mem_of_getElem? (i := 123) (by decide +kernel)
theorem wm_L_22 : Cond.methodLink RL 22 yX7_at ∈ BIG := List.mem_of_getElem? (i := 124) (by decide +kernel)
theorem wi_X7_at : Cond.instanceMethod yX7_at ∈ BIG := List.mem_of_getElem? (i := 125) (by decide +kernel)
theorem wse_X7_at : Cond.selects RX7 yX7_at yX7_at ∈ BIG := List.mem_of_getElem? (i := 126) (by decide +kernel)
theorem wc_X7_at : Cond.code yX7_at cX7_at 4 (some .int) ∈ BIG := List.mem_of_getElem? (i := 127) (by decide +kernel)
theorem wk_X7_63 : Cond.constantLong RX7 63 (20) ∈ BIG := List.mem_of_getElem? (i := 128) (by decide +kernel)
theorem wm_L_23 : Cond.methodLink RL 23 yX6_edges ∈ BIG := List.mem_of_getElem? (i := 129) (by decide +kernel)
theorem wi_X6_edges : Cond.instanceMethod yX6_edges ∈ BIG := List.mem_of_getElem? (i := 130) (by decide +kernel)
theorem wse_X6_edges : Cond.selects RX6 yX6_edges yX6_edges ∈ BIG := List.mem_of_getElem? (i := 131) (by decide +kernel)
theorem wc_X6_edges : Cond.code yX6_edges cX6_edges 4 (some .int) ∈ BIG := List.mem_of_getElem? (i := 132) (by decide +kernel)
theorem wf_X6_79 : Cond.fieldLink RX6 79 "StandingArch$Arch" "low" "[I" ∈ BIG := List.mem_of_getElem? (i := 133) (by decide +kernel)
theorem wf_X6_82 : Cond.fieldLink RX6 82 "StandingArch$Arch" "high" "[I" ∈ BIG := List.mem_of_getElem? (i := 134) (by decide +kernel)
theorem wm_X6_71 : Cond.methodLink RX6 71 yX0_hasJoint ∈ BIG := List.mem_of_getElem? (i := 135) (by decide +kernel)
theorem wi_X0_hasJoint : Cond.instanceMethod yX0_hasJoint ∈ BIG := List.mem_of_getElem? (i := 136) (by decide +kernel)
theorem wse_X0_hasJoint : Cond.selects RX0 yX0_hasJoint yX0_hasJoint ∈ BIG := List.mem_of_getElem? (i := 137) (by decide +kernel)
theorem wc_X0_hasJoint : Cond.code yX0_hasJoint cX0_hasJoint 2 (some .boolean) ∈ BIG := List.mem_of_getElem? (i := 138) (by decide +kernel)
theorem wm_X6_75 : Cond.methodLink RX6 75 yX6_areEdges ∈ BIG := List.mem_of_getElem? (i := 139) (by decide +kernel)
theorem wst_X6_areEdges : Cond.static yX6_areEdges ∈ BIG := List.mem_of_getElem? (i := 140) (by decide +kernel)
theorem wc_X6_areEdges : Cond.code yX6_areEdges cX6_areEdges 2 (some .boolean) ∈ BIG := List.mem_of_getElem? (i := 141) (by decide +kernel)
theorem wm_X6_196 : Cond.methodLink RX6 196 yX6_isHeight ∈ BIG := List.mem_of_getElem? (i := 142) (by decide +kernel)
theorem wst_X6_isHeight : Cond.static yX6_isHeight ∈ BIG := List.mem_of_getElem? (i := 143) (by decide +kernel)
theorem wc_X6_isHeight : Cond.code yX6_isHeight cX6_isHeight 1 (some .boolean) ∈ BIG := List.mem_of_getElem? (i := 144) (by decide +kernel)
theorem wm_L_27 : Cond.methodLink RL 27 yX7_edges ∈ BIG := List.mem_of_getElem? (i := 145) (by decide +kernel)
theorem wi_X7_edges : Cond.instanceMethod yX7_edges ∈ BIG := List.mem_of_getElem? (i := 146) (by decide +kernel)
theorem wse_X7_edges : Cond.selects RX7 yX7_edges yX7_edges ∈ BIG := List.mem_of_getElem? (i := 147) (by decide +kernel)
theorem wc_X7_edges : Cond.code yX7_edges cX7_edges 4 (some .int) ∈ BIG := List.mem_of_getElem? (i := 148) (by decide +kernel)
theorem wk_X7_65 : Cond.constantLong RX7 65 (-20) ∈ BIG := List.mem_of_getElem? (i := 149) (by decide +kernel)
theorem wm_L_28 : Cond.methodLink RL 28 yX6_load ∈ BIG := List.mem_of_getElem? (i := 150) (by decide +kernel)
theorem wi_X6_load : Cond.instanceMethod yX6_load ∈ BIG := List.mem_of_getElem? (i := 151) (by decide +kernel)
theorem wse_X6_load : Cond.selects RX6 yX6_load yX6_load ∈ BIG := List.mem_of_getElem? (i := 152) (by decide +kernel)
theorem wc_X6_load : Cond.code yX6_load cX6_load 4 (some .int) ∈ BIG := List.mem_of_getElem? (i := 153) (by decide +kernel)
theorem wf_X6_91 : Cond.fieldLink RX6 91 "StandingArch$Arch" "weight" "[I" ∈ BIG := List.mem_of_getElem? (i := 154) (by decide +kernel)
theorem wm_X6_85 : Cond.methodLink RX6 85 yX0_hasInnerJoint ∈ BIG := List.mem_of_getElem? (i := 155) (by decide +kernel)
theorem wi_X0_hasInnerJoint : Cond.instanceMethod yX0_hasInnerJoint ∈ BIG := List.mem_of_getElem? (i := 156) (by decide +kernel)
theorem wse_X0_hasInnerJoint : Cond.selects RX0 yX0_hasInnerJoint yX0_hasInnerJoint ∈ BIG := List.mem_of_getElem? (i := 157) (by decide +kernel)
theorem wc_X0_hasInnerJoint : Cond.code yX0_hasInnerJoint cX0_hasInnerJoint 2 (some .boolean) ∈ BIG := List.mem_of_getElem? (i := 158) (by decide +kernel)
theorem wm_X6_88 : Cond.methodLink RX6 88 yX6_isLoad ∈ BIG := List.mem_of_getElem? (i := 159) (by decide +kernel)
theorem wst_X6_isLoad : Cond.static yX6_isLoad ∈ BIG := List.mem_of_getElem? (i := 160) (by decide +kernel)
theorem wc_X6_isLoad : Cond.code yX6_isLoad cX6_isLoad 1 (some .boolean) ∈ BIG := List.mem_of_getElem? (i := 161) (by decide +kernel)
theorem wm_L_31 : Cond.methodLink RL 31 yX7_load ∈ BIG := List.mem_of_getElem? (i := 162) (by decide +kernel)
theorem wi_X7_load : Cond.instanceMethod yX7_load ∈ BIG := List.mem_of_getElem? (i := 163) (by decide +kernel)
theorem wse_X7_load : Cond.selects RX7 yX7_load yX7_load ∈ BIG := List.mem_of_getElem? (i := 164) (by decide +kernel)
theorem wc_X7_load : Cond.code yX7_load cX7_load 4 (some .int) ∈ BIG := List.mem_of_getElem? (i := 165) (by decide +kernel)
theorem wk_X7_67 : Cond.constantLong RX7 67 (10) ∈ BIG := List.mem_of_getElem? (i := 166) (by decide +kernel)
theorem wm_L_32 : Cond.methodLink RL 32 yX6_sheet ∈ BIG := List.mem_of_getElem? (i := 167) (by decide +kernel)
theorem wi_X6_sheet : Cond.instanceMethod yX6_sheet ∈ BIG := List.mem_of_getElem? (i := 168) (by decide +kernel)
theorem wse_X6_sheet : Cond.selects RX6 yX6_sheet yX6_sheet ∈ BIG := List.mem_of_getElem? (i := 169) (by decide +kernel)
theorem wc_X6_sheet : Cond.code yX6_sheet cX6_sheet 4 (some .int) ∈ BIG := List.mem_of_getElem? (i := 170) (by decide +kernel)
theorem wm_X6_94 : Cond.methodLink RX6 94 yX6_isSheet ∈ BIG := List.mem_of_getElem? (i := 171) (by decide +kernel)
theorem wst_X6_isSheet : Cond.static yX6_isSheet ∈ BIG := List.mem_of_getElem? (i := 172) (by decide +kernel)
theorem wc_X6_isSheet : Cond.code yX6_isSheet cX6_isSheet 1 (some .boolean) ∈ BIG := List.mem_of_getElem? (i := 173) (by decide +kernel)
theorem wm_X6_97 : Cond.methodLink RX6 97 yX6_isLane ∈ BIG := List.mem_of_getElem? (i := 174) (by decide +kernel)
theorem wst_X6_isLane : Cond.static yX6_isLane ∈ BIG := List.mem_of_getElem? (i := 175) (by decide +kernel)
theorem wc_X6_isLane : Cond.code yX6_isLane cX6_isLane 1 (some .boolean) ∈ BIG := List.mem_of_getElem? (i := 176) (by decide +kernel)
theorem wm_X6_100 : Cond.methodLink RX6 100 yX4_hold ∈ BIG := List.mem_of_getElem? (i := 177) (by decide +kernel)
theorem wi_X4_hold : Cond.instanceMethod yX4_hold ∈ BIG := List.mem_of_getElem? (i := 178) (by decide +kernel)
theorem wse_X4_hold : Cond.selects RX4 yX4_hold yX4_hold ∈ BIG := List.mem_of_getElem? (i := 179) (by decide +kernel)
theorem wc_X4_hold : Cond.code yX4_hold cX4_hold 3 none ∈ BIG := List.mem_of_getElem? (i := 180) (by decide +kernel)
theorem wf_X4_15 : Cond.fieldLink RX4 15 "StandingArch$Sheet" "held" "Z" ∈ BIG := List.mem_of_getElem? (i := 181) (by decide +kernel)
theorem wf_X4_19 : Cond.fieldLink RX4 19 "StandingArch$Sheet" "lane" "I" ∈ BIG := List.mem_of_getElem? (i := 182) (by decide +kernel)
theorem wf_X4_23 : Cond.fieldLink RX4 23 "StandingArch$Sheet" "size" "I" ∈ BIG := List.mem_of_getElem? (i := 183) (by decide +kernel)
theorem wm_X4_26 : Cond.methodLink RX4 26 yJ7_fill_53178 ∈ BIG := List.mem_of_getElem? (i := 184) (by decide +kernel)
theorem wst_J7_fill_53178 : Cond.static yJ7_fill_53178 ∈ BIG := List.mem_of_getElem? (i := 185) (by decide +kernel)
theorem win_J7 : Cond.initialized RJ7 ∈ BIG := List.mem_of_getElem? (i := 186) (by decide +kernel)
theorem wc_J7_fill_53178 : Cond.code yJ7_fill_53178 cJ7_fill_53178 4 none ∈ BIG := List.mem_of_getElem? (i := 187) (by decide +kernel)
theorem wm_L_35 : Cond.methodLink RL 35 yX7_sheet ∈ BIG := List.mem_of_getElem? (i := 188) (by decide +kernel)
theorem wi_X7_sheet : Cond.instanceMethod yX7_sheet ∈ BIG := List.mem_of_getElem? (i := 189) (by decide +kernel)
theorem wse_X7_sheet : Cond.selects RX7 yX7_sheet yX7_sheet ∈ BIG := List.mem_of_getElem? (i := 190) (by decide +kernel)
theorem wc_X7_sheet : Cond.code yX7_sheet cX7_sheet 5 (some .int) ∈ BIG := List.mem_of_getElem? (i := 191) (by decide +kernel)
theorem wm_X7_71 : Cond.methodLink RX7 71 yX7_isSheet ∈ BIG := List.mem_of_getElem? (i := 192) (by decide +kernel)
theorem wst_X7_isSheet : Cond.static yX7_isSheet ∈ BIG := List.mem_of_getElem? (i := 193) (by decide +kernel)
theorem wc_X7_isSheet : Cond.code yX7_isSheet cX7_isSheet 2 (some .boolean) ∈ BIG := List.mem_of_getElem? (i := 194) (by decide +kernel)
theorem wk_X7_69 : Cond.constantLong RX7 69 (3) ∈ BIG := List.mem_of_getElem? (i := 195) (by decide +kernel)
theorem wm_L_36 : Cond.methodLink RL 36 yX6_drop ∈ BIG := List.mem_of_getElem? (i := 196) (by decide +kernel)
theorem wi_X6_drop : Cond.instanceMethod yX6_drop ∈ BIG := List.mem_of_getElem? (i := 197) (by decide +kernel)
theorem wse_X6_drop : Cond.selects RX6 yX6_drop yX6_drop ∈ BIG := List.mem_of_getElem? (i := 198) (by decide +kernel)
theorem wc_X6_drop : Cond.code yX6_drop cX6_drop 2 (some .int) ∈ BIG := List.mem_of_getElem? (i := 199) (by decide +kernel)
theorem wf_X6_104 : Cond.fieldLink RX6 104 "StandingArch$Sheet" "held" "Z" ∈ BIG := List.mem_of_getElem? (i := 200) (by decide +kernel)
theorem wf_X6_108 : Cond.fieldLink RX6 108 "StandingArch$Sheet" "size" "I" ∈ BIG := List.mem_of_getElem? (i := 201) (by decide +kernel)
theorem wm_L_39 : Cond.methodLink RL 39 yX7_drop ∈ BIG := List.mem_of_getElem? (i := 202) (by decide +kernel)
theorem wi_X7_drop : Cond.instanceMethod yX7_drop ∈ BIG := List.mem_of_getElem? (i := 203) (by decide +kernel)
theorem wse_X7_drop : Cond.selects RX7 yX7_drop yX7_drop ∈ BIG := List.mem_of_getElem? (i := 204) (by decide +kernel)
theorem wc_X7_drop : Cond.code yX7_drop cX7_drop 2 (some .int) ∈ BIG := List.mem_of_getElem? (i := 205) (by decide +kernel)
theorem wm_L_40 : Cond.methodLink RL 40 yX6_item ∈ BIG := List.mem_of_getElem? (i := 206) (by decide +kernel)
theorem wi_X6_item : Cond.instanceMethod yX6_item ∈ BIG := List.mem_of_getElem? (i := 207) (by decide +kernel)
theorem wse_X6_item : Cond.selects RX6 yX6_item yX6_item ∈ BIG := List.mem_of_getElem? (i := 208) (by decide +kernel)
theorem wc_X6_item : Cond.code yX6_item cX6_item 7 (some .int) ∈ BIG := List.mem_of_getElem? (i := 209) (by decide +kernel)
theorem wf_X6_115 : Cond.fieldLink RX6 115 "StandingArch$Sheet" "items" "[I" ∈ BIG := List.mem_of_getElem? (i := 210) (by decide +kernel)
theorem wm_X6_111 : Cond.methodLink RX6 111 yX6_refusalOfRow ∈ BIG := List.mem_of_getElem? (i := 211) (by decide +kernel)
theorem wi_X6_refusalOfRow : Cond.instanceMethod yX6_refusalOfRow ∈ BIG := List.mem_of_getElem? (i := 212) (by decide +kernel)
theorem wse_X6_refusalOfRow : Cond.selects RX6 yX6_refusalOfRow yX6_refusalOfRow ∈ BIG := List.mem_of_getElem? (i := 213) (by decide +kernel)
theorem wc_X6_refusalOfRow : Cond.code yX6_refusalOfRow cX6_refusalOfRow 3 (some .int) ∈ BIG := List.mem_of_getElem? (i := 214) (by decide +kernel)
theorem wf_X6_217 : Cond.fieldLink RX6 217 "StandingArch$Sheet" "lane" "I" ∈ BIG := List.mem_of_getElem? (i := 215) (by decide +kernel)
theorem wm_L_44 : Cond.methodLink RL 44 yX7_item ∈ BIG := List.mem_of_getElem? (i := 216) (by decide +kernel)
theorem wi_X7_item : Cond.instanceMethod yX7_item ∈ BIG := List.mem_of_getElem? (i := 217) (by decide +kernel)
theorem wse_X7_item : Cond.selects RX7 yX7_item yX7_item ∈ BIG := List.mem_of_getElem? (i := 218) (by decide +kernel)
theorem wc_X7_item : Cond.code yX7_item cX7_item 5 (some .int) ∈ BIG := List.mem_of_getElem? (i := 219) (by decide +kernel)
theorem wm_L_45 : Cond.methodLink RL 45 yX6_read ∈ BIG := List.mem_of_getElem? (i := 220) (by decide +kernel)
theorem wi_X6_read : Cond.instanceMethod yX6_read ∈ BIG := List.mem_of_getElem? (i := 221) (by decide +kernel)
theorem wse_X6_read : Cond.selects RX6 yX6_read yX6_read ∈ BIG := List.mem_of_getElem? (i := 222) (by decide +kernel)
theorem wc_X6_read : Cond.code yX6_read cX6_read 6 (some .int) ∈ BIG := List.mem_of_getElem? (i := 223) (by decide +kernel)
theorem wm_X6_118 : Cond.methodLink RX6 118 yX0_mayTake ∈ BIG := List.mem_of_getElem? (i := 224) (by decide +kernel)
theorem wi_X0_mayTake : Cond.instanceMethod yX0_mayTake ∈ BIG := List.mem_of_getElem? (i := 225) (by decide +kernel)
theorem wse_X0_mayTake : Cond.selects RX0 yX0_mayTake yX0_mayTake ∈ BIG := List.mem_of_getElem? (i := 226) (by decide +kernel)
theorem wc_X0_mayTake : Cond.code yX0_mayTake cX0_mayTake 7 (some .boolean) ∈ BIG := List.mem_of_getElem? (i := 227) (by decide +kernel)
theorem wm_X6_122 : Cond.methodLink RX6 122 yX0_take ∈ BIG := List.mem_of_getElem? (i := 228) (by decide +kernel)
theorem wi_X0_take : Cond.instanceMethod yX0_take ∈ BIG := List.mem_of_getElem? (i := 229) (by decide +kernel)
theorem wse_X0_take : Cond.selects RX0 yX0_take yX0_take ∈ BIG := List.mem_of_getElem? (i := 230) (by decide +kernel)
theorem wc_X0_take : Cond.code yX0_take cX0_take 5 none ∈ BIG := List.mem_of_getElem? (i := 231) (by decide +kernel)
theorem wm_X0_39 : Cond.methodLink RX0 39 yX0_hasInnerJoint ∈ BIG := List.mem_of_getElem? (i := 232) (by decide +kernel)
theorem wm_L_48 : Cond.methodLink RL 48 yX7_read ∈ BIG := List.mem_of_getElem? (i := 233) (by decide +kernel)
theorem wi_X7_read : Cond.instanceMethod yX7_read ∈ BIG := List.mem_of_getElem? (i := 234) (by decide +kernel)
theorem wse_X7_read : Cond.selects RX7 yX7_read yX7_read ∈ BIG := List.mem_of_getElem? (i := 235) (by decide +kernel)
theorem wc_X7_read : Cond.code yX7_read cX7_read 9 (some .int) ∈ BIG := List.mem_of_getElem? (i := 236) (by decide +kernel)
theorem wm_L_49 : Cond.methodLink RL 49 yX6_told ∈ BIG := List.mem_of_getElem? (i := 237) (by decide +kernel)
theorem wi_X6_told : Cond.instanceMethod yX6_told ∈ BIG := List.mem_of_getElem? (i := 238) (by decide +kernel)
theorem wse_X6_told : Cond.selects RX6 yX6_told yX6_told ∈ BIG := List.mem_of_getElem? (i := 239) (by decide +kernel)
theorem wc_X6_told : Cond.code yX6_told cX6_told 3 (some .int) ∈ BIG := List.mem_of_getElem? (i := 240) (by decide +kernel)
theorem wk_X6_126 : Cond.constant RX6 126 (-100001) ∈ BIG := List.mem_of_getElem? (i := 241) (by decide +kernel)
theorem wf_X6_131 : Cond.fieldLink RX6 131 "StandingArch$Arch" "moment" "[I" ∈ BIG := List.mem_of_getElem? (i := 242) (by decide +kernel)
theorem wm_X6_127 : Cond.methodLink RX6 127 yX0_weigh ∈ BIG := List.mem_of_getElem? (i := 243) (by decide +kernel)
theorem wi_X0_weigh : Cond.instanceMethod yX0_weigh ∈ BIG := List.mem_of_getElem? (i := 244) (by decide +kernel)
theorem wse_X0_weigh : Cond.selects RX0 yX0_weigh yX0_weigh ∈ BIG := List.mem_of_getElem? (i := 245) (by decide +kernel)
theorem wc_X0_weigh : Cond.code yX0_weigh cX0_weigh 7 none ∈ BIG := List.mem_of_getElem? (i := 246) (by decide +kernel)
theorem wm_X0_42 : Cond.methodLink RX0 42 yX0_span ∈ BIG := List.mem_of_getElem? (i := 247) (by decide +kernel)
theorem wi_X0_span : Cond.instanceMethod yX0_span ∈ BIG := List.mem_of_getElem? (i := 248) (by decide +kernel)
theorem wse_X0_span : Cond.selects RX0 yX0_span yX0_span ∈ BIG := List.mem_of_getElem? (i := 249) (by decide +kernel)
theorem wc_X0_span : Cond.code yX0_span cX0_span 1 (some .int) ∈ BIG := List.mem_of_getElem? (i := 250) (by decide +kernel)
theorem wm_L_52 : Cond.methodLink RL 52 yX7_told ∈ BIG := List.mem_of_getElem? (i := 251) (by decide +kernel)
theorem wi_X7_told : Cond.instanceMethod yX7_told ∈ BIG := List.mem_of_getElem? (i := 252) (by decide +kernel)
theorem wse_X7_told : Cond.selects RX7 yX7_told yX7_told ∈ BIG := List.mem_of_getElem? (i := 253) (by decide +kernel)
theorem wc_X7_told : Cond.code yX7_told cX7_told 3 (some .int) ∈ BIG := List.mem_of_getElem? (i := 254) (by decide +kernel)
theorem wk_X7_75 : Cond.constantLong RX7 75 (4) ∈ BIG := List.mem_of_getElem? (i := 255) (by decide +kernel)
theorem wk_X7_77 : Cond.constant RX7 77 (-100001) ∈ BIG := List.mem_of_getElem? (i := 256) (by decide +kernel)
theorem wm_X7_78 : Cond.methodLink RX7 78 yX7_momentAt ∈ BIG := List.mem_of_getElem? (i := 257) (by decide +kernel)
theorem wi_X7_momentAt : Cond.instanceMethod yX7_momentAt ∈ BIG := List.mem_of_getElem? (i := 258) (by decide +kernel)
theorem wse_X7_momentAt : Cond.selects RX7 yX7_momentAt yX7_momentAt ∈ BIG := List.mem_of_getElem? (i := 259) (by decide +kernel)
theorem wc_X7_momentAt : Cond.code yX7_momentAt cX7_momentAt 4 (some .int) ∈ BIG := List.mem_of_getElem? (i := 260) (by decide +kernel)
theorem wm_L_53 : Cond.methodLink RL 53 yX6_stands ∈ BIG := List.mem_of_getElem? (i := 261) (by decide +kernel)
theorem wi_X6_stands : Cond.instanceMethod yX6_stands ∈ BIG := List.mem_of_getElem? (i := 262) (by decide +kernel)
theorem wse_X6_stands : Cond.selects RX6 yX6_stands yX6_stands ∈ BIG := List.mem_of_getElem? (i := 263) (by decide +kernel)
theorem wc_X6_stands : Cond.code yX6_stands cX6_stands 1 (some .int) ∈ BIG := List.mem_of_getElem? (i := 264) (by decide +kernel)
theorem wm_X6_134 : Cond.methodLink RX6 134 yX6_holdsUnder ∈ BIG := List.mem_of_getElem? (i := 265) (by decide +kernel)
theorem wi_X6_holdsUnder : Cond.instanceMethod yX6_holdsUnder ∈ BIG := List.mem_of_getElem? (i := 266) (by decide +kernel)
theorem wse_X6_holdsUnder : Cond.selects RX6 yX6_holdsUnder yX6_holdsUnder ∈ BIG := List.mem_of_getElem? (i := 267) (by decide +kernel)
theorem wc_X6_holdsUnder : Cond.code yX6_holdsUnder cX6_holdsUnder 2 (some .boolean) ∈ BIG := List.mem_of_getElem? (i := 268) (by decide +kernel)
theorem wm_X6_199 : Cond.methodLink RX6 199 yX5_gather ∈ BIG := List.mem_of_getElem? (i := 269) (by decide +kernel)
theorem wi_X5_gather : Cond.instanceMethod yX5_gather ∈ BIG := List.mem_of_getElem? (i := 270) (by decide +kernel)
theorem wse_X5_gather : Cond.selects RX5 yX5_gather yX5_gather ∈ BIG := List.mem_of_getElem? (i := 271) (by decide +kernel)
theorem wc_X5_gather : Cond.code yX5_gather cX5_gather 9 none ∈ BIG := List.mem_of_getElem? (i := 272) (by decide +kernel)
theorem wf_X5_29 : Cond.fieldLink RX5 29 "StandingArch$Triples" "count" "I" ∈ BIG := List.mem_of_getElem? (i := 273) (by decide +kernel)
theorem wf_X5_33 : Cond.fieldLink RX5 33 "StandingArch$Arch" "last" "I" ∈ BIG := List.mem_of_getElem? (i := 274) (by decide +kernel)
theorem wf_X5_36 : Cond.fieldLink RX5 36 "StandingArch$Arch" "low" "[I" ∈ BIG := List.mem_of_getElem? (i := 275) (by decide +kernel)
theorem wf_X5_40 : Cond.fieldLink RX5 40 "StandingArch$Arch" "high" "[I" ∈ BIG := List.mem_of_getElem? (i := 276) (by decide +kernel)
theorem wm_X5_23 : Cond.methodLink RX5 23 yX0_weigh ∈ BIG := List.mem_of_getElem? (i := 277) (by decide +kernel)
theorem wm_X5_43 : Cond.methodLink RX5 43 yX0_rise ∈ BIG := List.mem_of_getElem? (i := 278) (by decide +kernel)
theorem wi_X0_rise : Cond.instanceMethod yX0_rise ∈ BIG := List.mem_of_getElem? (i := 279) (by decide +kernel)
theorem wse_X0_rise : Cond.selects RX0 yX0_rise yX0_rise ∈ BIG := List.mem_of_getElem? (i := 280) (by decide +kernel)
theorem wc_X0_rise : Cond.code yX0_rise cX0_rise 8 (some .long) ∈ BIG := List.mem_of_getElem? (i := 281) (by decide +kernel)
theorem wm_X5_47 : Cond.methodLink RX5 47 yX0_bend ∈ BIG := List.mem_of_getElem? (i := 282) (by decide +kernel)
theorem wi_X0_bend : Cond.instanceMethod yX0_bend ∈ BIG := List.mem_of_getElem? (i := 283) (by decide +kernel)
theorem wse_X0_bend : Cond.selects RX0 yX0_bend yX0_bend ∈ BIG := List.mem_of_getElem? (i := 284) (by decide +kernel)
theorem wc_X0_bend : Cond.code yX0_bend cX0_bend 4 (some .long) ∈ BIG := List.mem_of_getElem? (i := 285) (by decide +kernel)
theorem wm_X0_46 : Cond.methodLink RX0 46 yX0_rise ∈ BIG := List.mem_of_getElem? (i := 286) (by decide +kernel)
theorem wm_X6_214 : Cond.methodLink RX6 214 yX5_hold ∈ BIG := List.mem_of_getElem? (i := 287) (by decide +kernel)
theorem wi_X5_hold : Cond.instanceMethod yX5_hold ∈ BIG := List.mem_of_getElem? (i := 288) (by decide +kernel)
theorem wse_X5_hold : Cond.selects RX5 yX5_hold yX5_hold ∈ BIG := List.mem_of_getElem? (i := 289) (by decide +kernel)
theorem wc_X5_hold : Cond.code yX5_hold cX5_hold 2 (some .boolean) ∈ BIG := List.mem_of_getElem? (i := 290) (by decide +kernel)
theorem wm_X5_50 : Cond.methodLink RX5 50 Lib.MathLoose.abs_long.x ∈ BIG := List.mem_of_getElem? (i := 291) (by decide +kernel)
theorem wst_abs : Cond.static Lib.MathLoose.abs_long.x ∈ BIG := List.mem_of_getElem? (i := 292) (by decide +kernel)
theorem win_Math : Cond.initialized "java/lang/Math" ∈ BIG := List.mem_of_getElem? (i := 293) (by decide +kernel)
theorem wc_abs : Cond.code Lib.MathLoose.abs_long.x Lib.MathLoose.abs_long.code 2 (some .long) ∈ BIG := List.mem_of_getElem? (i := 294) (by decide +kernel)
theorem wm_X5_56 : Cond.methodLink RX5 56 yX5_tightestLeast ∈ BIG := List.mem_of_getElem? (i := 295) (by decide +kernel)
theorem wi_X5_tightestLeast : Cond.instanceMethod yX5_tightestLeast ∈ BIG := List.mem_of_getElem? (i := 296) (by decide +kernel)
theorem wse_X5_tightestLeast : Cond.selects RX5 yX5_tightestLeast yX5_tightestLeast ∈ BIG := List.mem_of_getElem? (i := 297) (by decide +kernel)
theorem wc_X5_tightestLeast : Cond.code yX5_tightestLeast cX5_tightestLeast 7 (some .int) ∈ BIG := List.mem_of_getElem? (i := 298) (by decide +kernel)
theorem wm_X5_86 : Cond.methodLink RX5 86 yX5_least ∈ BIG := List.mem_of_getElem? (i := 299) (by decide +kernel)
theorem wi_X5_least : Cond.instanceMethod yX5_least ∈ BIG := List.mem_of_getElem? (i := 300) (by decide +kernel)
theorem wse_X5_least : Cond.selects RX5 yX5_least yX5_least ∈ BIG := List.mem_of_getElem? (i := 301) (by decide +kernel)
theorem wc_X5_least : Cond.code yX5_least cX5_least 6 (some .long) ∈ BIG := List.mem_of_getElem? (i := 302) (by decide +kernel)
theorem wm_X5_60 : Cond.methodLink RX5 60 yX5_tightestMost ∈ BIG := List.mem_of_getElem? (i := 303) (by decide +kernel)
theorem wi_X5_tightestMost : Cond.instanceMethod yX5_tightestMost ∈ BIG := List.mem_of_getElem? (i := 304) (by decide +kernel)
theorem wse_X5_tightestMost : Cond.selects RX5 yX5_tightestMost yX5_tightestMost ∈ BIG := List.mem_of_getElem? (i := 305) (by decide +kernel)
theorem wc_X5_tightestMost : Cond.code yX5_tightestMost cX5_tightestMost 7 (some .int) ∈ BIG := List.mem_of_getElem? (i := 306) (by decide +kernel)
theorem wm_X5_90 : Cond.methodLink RX5 90 yX5_most ∈ BIG := List.mem_of_getElem? (i := 307) (by decide +kernel)
theorem wi_X5_most : Cond.instanceMethod yX5_most ∈ BIG := List.mem_of_getElem? (i := 308) (by decide +kernel)
theorem wse_X5_most : Cond.selects RX5 yX5_most yX5_most ∈ BIG := List.mem_of_getElem? (i := 309) (by decide +kernel)
theorem wc_X5_most : Cond.code yX5_most cX5_most 6 (some .long) ∈ BIG := List.mem_of_getElem? (i := 310) (by decide +kernel)
theorem wm_X5_63 : Cond.methodLink RX5 63 yX5_bars ∈ BIG := List.mem_of_getElem? (i := 311) (by decide +kernel)
theorem wi_X5_bars : Cond.instanceMethod yX5_bars ∈ BIG := List.mem_of_getElem? (i := 312) (by decide +kernel)
theorem wse_X5_bars : Cond.selects RX5 yX5_bars yX5_bars ∈ BIG := List.mem_of_getElem? (i := 313) (by decide +kernel)
theorem wc_X5_bars : Cond.code yX5_bars cX5_bars 7 (some .boolean) ∈ BIG := List.mem_of_getElem? (i := 314) (by decide +kernel)
theorem wm_L_57 : Cond.methodLink RL 57 yX7_stands ∈ BIG := List.mem_of_getElem? (i := 315) (by decide +kernel)
theorem wi_X7_stands : Cond.instanceMethod yX7_stands ∈ BIG := List.mem_of_getElem? (i := 316) (by decide +kernel)
theorem wse_X7_stands : Cond.selects RX7 yX7_stands yX7_stands ∈ BIG := List.mem_of_getElem? (i := 317) (by decide +kernel)
theorem wc_X7_stands : Cond.code yX7_stands cX7_stands 1 (some .int) ∈ BIG := List.mem_of_getElem? (i := 318) (by decide +kernel)
theorem wf_X7_114 : Cond.fieldLink RX7 114 "StandingArchModel" "stands" "Z" ∈ BIG := List.mem_of_getElem? (i := 319) (by decide +kernel)
theorem wm_X7_141 : Cond.methodLink RX7 141 yX7_findLines ∈ BIG := List.mem_of_getElem? (i := 320) (by decide +kernel)
theorem wi_X7_findLines : Cond.instanceMethod yX7_findLines ∈ BIG := List.mem_of_getElem? (i := 321) (by decide +kernel)
theorem wse_X7_findLines : Cond.selects RX7 yX7_findLines yX7_findLines ∈ BIG := List.mem_of_getElem? (i := 322) (by decide +kernel)
theorem wc_X7_findLines : Cond.code yX7_findLines cX7_findLines 4 none ∈ BIG := List.mem_of_getElem? (i := 323) (by decide +kernel)
theorem wf_X7_88 : Cond.fieldLink RX7 88 "StandingArchModel" "rows" "I" ∈ BIG := List.mem_of_getElem? (i := 324) (by decide +kernel)
theorem wm_X7_110 : Cond.methodLink RX7 110 yX7_findRows ∈ BIG := List.mem_of_getElem? (i := 325) (by decide +kernel)
theorem wi_X7_findRows : Cond.instanceMethod yX7_findRows ∈ BIG := List.mem_of_getElem? (i := 326) (by decide +kernel)
theorem wse_X7_findRows : Cond.selects RX7 yX7_findRows yX7_findRows ∈ BIG := List.mem_of_getElem? (i := 327) (by decide +kernel)
theorem wc_X7_findRows : Cond.code yX7_findRows cX7_findRows 15 none ∈ BIG := List.mem_of_getElem? (i := 328) (by decide +kernel)
theorem wk_X7_86 : Cond.constantLong RX7 86 (-2) ∈ BIG := List.mem_of_getElem? (i := 329) (by decide +kernel)
theorem wm_X7_82 : Cond.methodLink RX7 82 yX7_setRow ∈ BIG := List.mem_of_getElem? (i := 330) (by decide +kernel)
theorem wi_X7_setRow : Cond.instanceMethod yX7_setRow ∈ BIG := List.mem_of_getElem? (i := 331) (by decide +kernel)
theorem wse_X7_setRow : Cond.selects RX7 yX7_setRow yX7_setRow ∈ BIG := List.mem_of_getElem? (i := 332) (by decide +kernel)
theorem wc_X7_setRow : Cond.code yX7_setRow cX7_setRow 12 none ∈ BIG := List.mem_of_getElem? (i := 333) (by decide +kernel)
theorem wm_X7_118 : Cond.methodLink RX7 118 yX7_meetThree ∈ BIG := List.mem_of_getElem? (i := 334) (by decide +kernel)
theorem wi_X7_meetThree : Cond.instanceMethod yX7_meetThree ∈ BIG := List.mem_of_getElem? (i := 335) (by decide +kernel)
theorem wse_X7_meetThree : Cond.selects RX7 yX7_meetThree yX7_meetThree ∈ BIG := List.mem_of_getElem? (i := 336) (by decide +kernel)
theorem wc_X7_meetThree : Cond.code yX7_meetThree cX7_meetThree 4 (some .boolean) ∈ BIG := List.mem_of_getElem? (i := 337) (by decide +kernel)
theorem wf_X7_91 : Cond.fieldLink RX7 91 "StandingArchModel" "by" "J" ∈ BIG := List.mem_of_getElem? (i := 338) (by decide +kernel)
theorem wm_X7_95 : Cond.methodLink RX7 95 yX7_three ∈ BIG := List.mem_of_getElem? (i := 339) (by decide +kernel)
theorem wi_X7_three : Cond.instanceMethod yX7_three ∈ BIG := List.mem_of_getElem? (i := 340) (by decide +kernel)
theorem wse_X7_three : Cond.selects RX7 yX7_three yX7_three ∈ BIG := List.mem_of_getElem? (i := 341) (by decide +kernel)
theorem wc_X7_three : Cond.code yX7_three cX7_three 13 (some .long) ∈ BIG := List.mem_of_getElem? (i := 342) (by decide +kernel)
theorem wm_X7_99 : Cond.methodLink RX7 99 yX7_turnSpot ∈ BIG := List.mem_of_getElem? (i := 343) (by decide +kernel)
theorem wi_X7_turnSpot : Cond.instanceMethod yX7_turnSpot ∈ BIG := List.mem_of_getElem? (i := 344) (by decide +kernel)
theorem wse_X7_turnSpot : Cond.selects RX7 yX7_turnSpot yX7_turnSpot ∈ BIG := List.mem_of_getElem? (i := 345) (by decide +kernel)
theorem wc_X7_turnSpot : Cond.code yX7_turnSpot cX7_turnSpot 2 none ∈ BIG := List.mem_of_getElem? (i := 346) (by decide +kernel)
theorem wm_X7_102 : Cond.methodLink RX7 102 yX7_keepsAll ∈ BIG := List.mem_of_getElem? (i := 347) (by decide +kernel)
theorem wi_X7_keepsAll : Cond.instanceMethod yX7_keepsAll ∈ BIG := List.mem_of_getElem? (i := 348) (by decide +kernel)
theorem wse_X7_keepsAll : Cond.selects RX7 yX7_keepsAll yX7_keepsAll ∈ BIG := List.mem_of_getElem? (i := 349) (by decide +kernel)
theorem wc_X7_keepsAll : Cond.code yX7_keepsAll cX7_keepsAll 4 (some .boolean) ∈ BIG := List.mem_of_getElem? (i := 350) (by decide +kernel)
theorem wm_X7_122 : Cond.methodLink RX7 122 yX7_takeSpot ∈ BIG := List.mem_of_getElem? (i := 351) (by decide +kernel)
theorem wi_X7_takeSpot : Cond.instanceMethod yX7_takeSpot ∈ BIG := List.mem_of_getElem? (i := 352) (by decide +kernel)
theorem wse_X7_takeSpot : Cond.selects RX7 yX7_takeSpot yX7_takeSpot ∈ BIG := List.mem_of_getElem? (i := 353) (by decide +kernel)
theorem wc_X7_takeSpot : Cond.code yX7_takeSpot cX7_takeSpot 12 none ∈ BIG := List.mem_of_getElem? (i := 354) (by decide +kernel)
theorem wf_X7_128 : Cond.fieldLink RX7 128 "StandingArchModel" "bestBy" "J" ∈ BIG := List.mem_of_getElem? (i := 355) (by decide +kernel)
theorem wf_X7_135 : Cond.fieldLink RX7 135 "StandingArchModel" "leastK" "J" ∈ BIG := List.mem_of_getElem? (i := 356) (by decide +kernel)
theorem wf_X7_138 : Cond.fieldLink RX7 138 "StandingArchModel" "leastBy" "J" ∈ BIG := List.mem_of_getElem? (i := 357) (by decide +kernel)
theorem wm_X7_125 : Cond.methodLink RX7 125 yX7_common ∈ BIG := List.mem_of_getElem? (i := 358) (by decide +kernel)
theorem wst_X7_common : Cond.static yX7_common ∈ BIG := List.mem_of_getElem? (i := 359) (by decide +kernel)
theorem wc_X7_common : Cond.code yX7_common cX7_common 10 (some .long) ∈ BIG := List.mem_of_getElem? (i := 360) (by decide +kernel)
theorem wm_X7_131 : Cond.methodLink RX7 131 yX7_compare ∈ BIG := List.mem_of_getElem? (i := 361) (by decide +kernel)
theorem wst_X7_compare : Cond.static yX7_compare ∈ BIG := List.mem_of_getElem? (i := 362) (by decide +kernel)
theorem wc_X7_compare : Cond.code yX7_compare cX7_compare 25 (some .int) ∈ BIG := List.mem_of_getElem? (i := 363) (by decide +kernel)
theorem wm_X7_106 : Cond.methodLink RX7 106 yX7_down ∈ BIG := List.mem_of_getElem? (i := 364) (by decide +kernel)
theorem wst_X7_down : Cond.static yX7_down ∈ BIG := List.mem_of_getElem? (i := 365) (by decide +kernel)
theorem wc_X7_down : Cond.code yX7_down cX7_down 6 (some .long) ∈ BIG := List.mem_of_getElem? (i := 366) (by decide +kernel)
theorem wm_L_58 : Cond.methodLink RL 58 yX6_thrust ∈ BIG := List.mem_of_getElem? (i := 367) (by decide +kernel)
theorem wi_X6_thrust : Cond.instanceMethod yX6_thrust ∈ BIG := List.mem_of_getElem? (i := 368) (by decide +kernel)
theorem wse_X6_thrust : Cond.selects RX6 yX6_thrust yX6_thrust ∈ BIG := List.mem_of_getElem? (i := 369) (by decide +kernel)
theorem wc_X6_thrust : Cond.code yX6_thrust cX6_thrust 4 (some .long) ∈ BIG := List.mem_of_getElem? (i := 370) (by decide +kernel)
theorem wk_X6_141 : Cond.constantLong RX6 141 (-1) ∈ BIG := List.mem_of_getElem? (i := 371) (by decide +kernel)
theorem wk_X6_143 : Cond.constantLong RX6 143 (-2) ∈ BIG := List.mem_of_getElem? (i := 372) (by decide +kernel)
theorem wf_X6_152 : Cond.fieldLink RX6 152 "StandingArch$Fraction" "above" "J" ∈ BIG := List.mem_of_getElem? (i := 373) (by decide +kernel)
theorem wk_X6_156 : Cond.constantLong RX6 156 (-4) ∈ BIG := List.mem_of_getElem? (i := 374) (by decide +kernel)
theorem wf_X6_158 : Cond.fieldLink RX6 158 "StandingArch$Fraction" "below" "J" ∈ BIG := List.mem_of_getElem? (i := 375) (by decide +kernel)
theorem wm_X6_138 : Cond.methodLink RX6 138 yX6_isChoice ∈ BIG := List.mem_of_getElem? (i := 376) (by decide +kernel)
theorem wst_X6_isChoice : Cond.static yX6_isChoice ∈ BIG := List.mem_of_getElem? (i := 377) (by decide +kernel)
theorem wc_X6_isChoice : Cond.code yX6_isChoice cX6_isChoice 1 (some .boolean) ∈ BIG := List.mem_of_getElem? (i := 378) (by decide +kernel)
theorem wm_X6_145 : Cond.methodLink RX6 145 yX5_greatestPush ∈ BIG := List.mem_of_getElem? (i := 379) (by decide +kernel)
theorem wi_X5_greatestPush : Cond.instanceMethod yX5_greatestPush ∈ BIG := List.mem_of_getElem? (i := 380) (by decide +kernel)
theorem wse_X5_greatestPush : Cond.selects RX5 yX5_greatestPush yX5_greatestPush ∈ BIG := List.mem_of_getElem? (i := 381) (by decide +kernel)
theorem wc_X5_greatestPush : Cond.code yX5_greatestPush cX5_greatestPush 3 (some .boolean) ∈ BIG := List.mem_of_getElem? (i := 382) (by decide +kernel)
theorem wk_X5_67 : Cond.constantLong RX5 67 (2) ∈ BIG := List.mem_of_getElem? (i := 383) (by decide +kernel)
theorem wm_X5_69 : Cond.methodLink RX5 69 yX2_become ∈ BIG := List.mem_of_getElem? (i := 384) (by decide +kernel)
theorem wi_X2_become : Cond.instanceMethod yX2_become ∈ BIG := List.mem_of_getElem? (i := 385) (by decide +kernel)
theorem wse_X2_become : Cond.selects RX2 yX2_become yX2_become ∈ BIG := List.mem_of_getElem? (i := 386) (by decide +kernel)
theorem wc_X2_become : Cond.code yX2_become cX2_become 7 none ∈ BIG := List.mem_of_getElem? (i := 387) (by decide +kernel)
theorem wm_X2_16 : Cond.methodLink RX2 16 Lib.MathLoose.abs_long.x ∈ BIG := List.mem_of_getElem? (i := 388) (by decide +kernel)
theorem wm_X2_22 : Cond.methodLink RX2 22 yX2_commonDivisor ∈ BIG := List.mem_of_getElem? (i := 389) (by decide +kernel)
theorem wst_X2_commonDivisor : Cond.static yX2_commonDivisor ∈ BIG := List.mem_of_getElem? (i := 390) (by decide +kernel)
theorem wc_X2_commonDivisor : Cond.code yX2_commonDivisor cX2_commonDivisor 7 (some .long) ∈ BIG := List.mem_of_getElem? (i := 391) (by decide +kernel)
theorem wm_X6_149 : Cond.methodLink RX6 149 yX5_leastPush ∈ BIG := List.mem_of_getElem? (i := 392) (by decide +kernel)
theorem wi_X5_leastPush : Cond.instanceMethod yX5_leastPush ∈ BIG := List.mem_of_getElem? (i := 393) (by decide +kernel)
theorem wse_X5_leastPush : Cond.selects RX5 yX5_leastPush yX5_leastPush ∈ BIG := List.mem_of_getElem? (i := 394) (by decide +kernel)
theorem wc_X5_leastPush : Cond.code yX5_leastPush cX5_leastPush 3 (some .boolean) ∈ BIG := List.mem_of_getElem? (i := 395) (by decide +kernel)
theorem wm_X6_161 : Cond.methodLink RX6 161 yX0_span ∈ BIG := List.mem_of_getElem? (i := 396) (by decide +kernel)
theorem wm_X6_165 : Cond.methodLink RX6 165 yX2_become ∈ BIG := List.mem_of_getElem? (i := 397) (by decide +kernel)
theorem wm_X6_169 : Cond.methodLink RX6 169 yX2_part ∈ BIG := List.mem_of_getElem? (i := 398) (by decide +kernel)
theorem wi_X2_part : Cond.instanceMethod yX2_part ∈ BIG := List.mem_of_getElem? (i := 399) (by decide +kernel)
theorem wse_X2_part : Cond.selects RX2 yX2_part yX2_part ∈ BIG := List.mem_of_getElem? (i := 400) (by decide +kernel)
theorem wc_X2_part : Cond.code yX2_part cX2_part 2 (some .long) ∈ BIG := List.mem_of_getElem? (i := 401) (by decide +kernel)
theorem wm_L_62 : Cond.methodLink RL 62 yX7_thrust ∈ BIG := List.mem_of_getElem? (i := 402) (by decide +kernel)
theorem wi_X7_thrust : Cond.instanceMethod yX7_thrust ∈ BIG := List.mem_of_getElem? (i := 403) (by decide +kernel)
theorem wse_X7_thrust : Cond.selects RX7 yX7_thrust yX7_thrust ∈ BIG := List.mem_of_getElem? (i := 404) (by decide +kernel)
theorem wc_X7_thrust : Cond.code yX7_thrust cX7_thrust 9 (some .long) ∈ BIG := List.mem_of_getElem? (i := 405) (by decide +kernel)
theorem wk_X7_144 : Cond.constantLong RX7 144 (-1) ∈ BIG := List.mem_of_getElem? (i := 406) (by decide +kernel)
theorem wk_X7_149 : Cond.constantLong RX7 149 (-4) ∈ BIG := List.mem_of_getElem? (i := 407) (by decide +kernel)
theorem wm_X7_146 : Cond.methodLink RX7 146 yX7_isLoose ∈ BIG := List.mem_of_getElem? (i := 408) (by decide +kernel)
theorem wi_X7_isLoose : Cond.instanceMethod yX7_isLoose ∈ BIG := List.mem_of_getElem? (i := 409) (by decide +kernel)
theorem wse_X7_isLoose : Cond.selects RX7 yX7_isLoose yX7_isLoose ∈ BIG := List.mem_of_getElem? (i := 410) (by decide +kernel)
theorem wc_X7_isLoose : Cond.code yX7_isLoose cX7_isLoose 3 (some .boolean) ∈ BIG := List.mem_of_getElem? (i := 411) (by decide +kernel)
theorem wm_L_63 : Cond.methodLink RL 63 yX6_height ∈ BIG := List.mem_of_getElem? (i := 412) (by decide +kernel)
theorem wi_X6_height : Cond.instanceMethod yX6_height ∈ BIG := List.mem_of_getElem? (i := 413) (by decide +kernel)
theorem wse_X6_height : Cond.selects RX6 yX6_height yX6_height ∈ BIG := List.mem_of_getElem? (i := 414) (by decide +kernel)
theorem wc_X6_height : Cond.code yX6_height cX6_height 3 (some .long) ∈ BIG := List.mem_of_getElem? (i := 415) (by decide +kernel)
theorem wk_X6_173 : Cond.constantLong RX6 173 (-1000000000000001) ∈ BIG := List.mem_of_getElem? (i := 416) (by decide +kernel)
theorem wk_X6_175 : Cond.constantLong RX6 175 (-1000000000000002) ∈ BIG := List.mem_of_getElem? (i := 417) (by decide +kernel)
theorem wk_X6_177 : Cond.constantLong RX6 177 (-1000000000000004) ∈ BIG := List.mem_of_getElem? (i := 418) (by decide +kernel)
theorem wm_X6_179 : Cond.methodLink RX6 179 yX3_lay ∈ BIG := List.mem_of_getElem? (i := 419) (by decide +kernel)
theorem wi_X3_lay : Cond.instanceMethod yX3_lay ∈ BIG := List.mem_of_getElem? (i := 420) (by decide +kernel)
theorem wse_X3_lay : Cond.selects RX3 yX3_lay yX3_lay ∈ BIG := List.mem_of_getElem? (i := 421) (by decide +kernel)
theorem wc_X3_lay : Cond.code yX3_lay cX3_lay 2 none ∈ BIG := List.mem_of_getElem? (i := 422) (by decide +kernel)
theorem wf_X3_23 : Cond.fieldLink RX3 23 "StandingArch$Fraction" "above" "J" ∈ BIG := List.mem_of_getElem? (i := 423) (by decide +kernel)
theorem wf_X3_28 : Cond.fieldLink RX3 28 "StandingArch$LeastLine" "pushAbove" "J" ∈ BIG := List.mem_of_getElem? (i := 424) (by decide +kernel)
theorem wf_X3_31 : Cond.fieldLink RX3 31 "StandingArch$Fraction" "below" "J" ∈ BIG := List.mem_of_getElem? (i := 425) (by decide +kernel)
theorem wm_X3_34 : Cond.methodLink RX3 34 yX3_findLeastStart ∈ BIG := List.mem_of_getElem? (i := 426) (by decide +kernel)
theorem wi_X3_findLeastStart : Cond.instanceMethod yX3_findLeastStart ∈ BIG := List.mem_of_getElem? (i := 427) (by decide +kernel)
theorem wse_X3_findLeastStart : Cond.selects RX3 yX3_findLeastStart yX3_findLeastStart ∈ BIG := List.mem_of_getElem? (i := 428) (by decide +kernel)
theorem wc_X3_findLeastStart : Cond.code yX3_findLeastStart cX3_findLeastStart 7 none ∈ BIG := List.mem_of_getElem? (i := 429) (by decide +kernel)
theorem wf_X3_44 : Cond.fieldLink RX3 44 "StandingArch$LeastLine" "startAbove" "J" ∈ BIG := List.mem_of_getElem? (i := 430) (by decide +kernel)
theorem wf_X3_47 : Cond.fieldLink RX3 47 "StandingArch$Arch" "last" "I" ∈ BIG := List.mem_of_getElem? (i := 431) (by decide +kernel)
theorem wf_X3_53 : Cond.fieldLink RX3 53 "StandingArch$Arch" "place" "[I" ∈ BIG := List.mem_of_getElem? (i := 432) (by decide +kernel)
theorem wm_X3_40 : Cond.methodLink RX3 40 yX3_straightLow ∈ BIG := List.mem_of_getElem? (i := 433) (by decide +kernel)
theorem wi_X3_straightLow : Cond.instanceMethod yX3_straightLow ∈ BIG := List.mem_of_getElem? (i := 434) (by decide +kernel)
theorem wse_X3_straightLow : Cond.selects RX3 yX3_straightLow yX3_straightLow ∈ BIG := List.mem_of_getElem? (i := 435) (by decide +kernel)
theorem wc_X3_straightLow : Cond.code yX3_straightLow cX3_straightLow 2 (some .long) ∈ BIG := List.mem_of_getElem? (i := 436) (by decide +kernel)
theorem wf_X3_74 : Cond.fieldLink RX3 74 "StandingArch$Arch" "low" "[I" ∈ BIG := List.mem_of_getElem? (i := 437) (by decide +kernel)
theorem wf_X3_67 : Cond.fieldLink RX3 67 "StandingArch$Arch" "moment" "[I" ∈ BIG := List.mem_of_getElem? (i := 438) (by decide +kernel)
theorem wm_X3_57 : Cond.methodLink RX3 57 yX3_straightHigh ∈ BIG := List.mem_of_getElem? (i := 439) (by decide +kernel)
theorem wi_X3_straightHigh : Cond.instanceMethod yX3_straightHigh ∈ BIG := List.mem_of_getElem? (i := 440) (by decide +kernel)
theorem wse_X3_straightHigh : Cond.selects RX3 yX3_straightHigh yX3_straightHigh ∈ BIG := List.mem_of_getElem? (i := 441) (by decide +kernel)
theorem wc_X3_straightHigh : Cond.code yX3_straightHigh cX3_straightHigh 2 (some .long) ∈ BIG := List.mem_of_getElem? (i := 442) (by decide +kernel)
theorem wf_X3_77 : Cond.fieldLink RX3 77 "StandingArch$Arch" "high" "[I" ∈ BIG := List.mem_of_getElem? (i := 443) (by decide +kernel)
theorem wm_X3_37 : Cond.methodLink RX3 37 yX3_findLeastSlope ∈ BIG := List.mem_of_getElem? (i := 444) (by decide +kernel)
theorem wi_X3_findLeastSlope : Cond.instanceMethod yX3_findLeastSlope ∈ BIG := List.mem_of_getElem? (i := 445) (by decide +kernel)
theorem wse_X3_findLeastSlope : Cond.selects RX3 yX3_findLeastSlope yX3_findLeastSlope ∈ BIG := List.mem_of_getElem? (i := 446) (by decide +kernel)
theorem wc_X3_findLeastSlope : Cond.code yX3_findLeastSlope cX3_findLeastSlope 6 none ∈ BIG := List.mem_of_getElem? (i := 447) (by decide +kernel)
theorem wf_X3_60 : Cond.fieldLink RX3 60 "StandingArch$LeastLine" "slopeAbove" "J" ∈ BIG := List.mem_of_getElem? (i := 448) (by decide +kernel)
theorem wm_X3_63 : Cond.methodLink RX3 63 yX0_span ∈ BIG := List.mem_of_getElem? (i := 449) (by decide +kernel)
theorem wm_X6_183 : Cond.methodLink RX6 183 yX3_heightInto ∈ BIG := List.mem_of_getElem? (i := 450) (by decide +kernel)
theorem wi_X3_heightInto : Cond.instanceMethod yX3_heightInto ∈ BIG := List.mem_of_getElem? (i := 451) (by decide +kernel)
theorem wse_X3_heightInto : Cond.selects RX3 yX3_heightInto yX3_heightInto ∈ BIG := List.mem_of_getElem? (i := 452) (by decide +kernel)
theorem wc_X3_heightInto : Cond.code yX3_heightInto cX3_heightInto 7 none ∈ BIG := List.mem_of_getElem? (i := 453) (by decide +kernel)
theorem wm_X3_70 : Cond.methodLink RX3 70 yX2_become ∈ BIG := List.mem_of_getElem? (i := 454) (by decide +kernel)
theorem wm_L_66 : Cond.methodLink RL 66 yX7_height ∈ BIG := List.mem_of_getElem? (i := 455) (by decide +kernel)
theorem wi_X7_height : Cond.instanceMethod yX7_height ∈ BIG := List.mem_of_getElem? (i := 456) (by decide +kernel)
theorem wse_X7_height : Cond.selects RX7 yX7_height yX7_height ∈ BIG := List.mem_of_getElem? (i := 457) (by decide +kernel)
theorem wc_X7_height : Cond.code yX7_height cX7_height 9 (some .long) ∈ BIG := List.mem_of_getElem? (i := 458) (by decide +kernel)
theorem wk_X7_151 : Cond.constantLong RX7 151 (-1000000000000001) ∈ BIG := List.mem_of_getElem? (i := 459) (by decide +kernel)
theorem wk_X7_153 : Cond.constantLong RX7 153 (-1000000000000002) ∈ BIG := List.mem_of_getElem? (i := 460) (by decide +kernel)
theorem wk_X7_155 : Cond.constantLong RX7 155 (-1000000000000004) ∈ BIG := List.mem_of_getElem? (i := 461) (by decide +kernel)
theorem wm_L_67 : Cond.methodLink RL 67 yX6_bar ∈ BIG := List.mem_of_getElem? (i := 462) (by decide +kernel)
theorem wi_X6_bar : Cond.instanceMethod yX6_bar ∈ BIG := List.mem_of_getElem? (i := 463) (by decide +kernel)
theorem wse_X6_bar : Cond.selects RX6 yX6_bar yX6_bar ∈ BIG := List.mem_of_getElem? (i := 464) (by decide +kernel)
theorem wc_X6_bar : Cond.code yX6_bar cX6_bar 2 (some .int) ∈ BIG := List.mem_of_getElem? (i := 465) (by decide +kernel)
theorem wf_X6_190 : Cond.fieldLink RX6 190 "StandingArch$Bars" "count" "I" ∈ BIG := List.mem_of_getElem? (i := 466) (by decide +kernel)
theorem wf_X6_193 : Cond.fieldLink RX6 193 "StandingArch$Bars" "chosen" "[I" ∈ BIG := List.mem_of_getElem? (i := 467) (by decide +kernel)
theorem wm_X6_187 : Cond.methodLink RX6 187 yX1_find ∈ BIG := List.mem_of_getElem? (i := 468) (by decide +kernel)
theorem wi_X1_find : Cond.instanceMethod yX1_find ∈ BIG := List.mem_of_getElem? (i := 469) (by decide +kernel)
theorem wse_X1_find : Cond.selects RX1 yX1_find yX1_find ∈ BIG := List.mem_of_getElem? (i := 470) (by decide +kernel)
theorem wc_X1_find : Cond.code yX1_find cX1_find 1 none ∈ BIG := List.mem_of_getElem? (i := 471) (by decide +kernel)
theorem wf_X1_19 : Cond.fieldLink RX1 19 "StandingArch$Bars" "count" "I" ∈ BIG := List.mem_of_getElem? (i := 472) (by decide +kernel)
theorem wm_X1_23 : Cond.methodLink RX1 23 yX1_findFirst ∈ BIG := List.mem_of_getElem? (i := 473) (by decide +kernel)
theorem wi_X1_findFirst : Cond.instanceMethod yX1_findFirst ∈ BIG := List.mem_of_getElem? (i := 474) (by decide +kernel)
theorem wse_X1_findFirst : Cond.selects RX1 yX1_findFirst yX1_findFirst ∈ BIG := List.mem_of_getElem? (i := 475) (by decide +kernel)
theorem wc_X1_findFirst : Cond.code yX1_findFirst cX1_findFirst 6 (some .boolean) ∈ BIG := List.mem_of_getElem? (i := 476) (by decide +kernel)
theorem wf_X1_27 : Cond.fieldLink RX1 27 "StandingArch$Arch" "last" "I" ∈ BIG := List.mem_of_getElem? (i := 477) (by decide +kernel)
theorem wm_X1_32 : Cond.methodLink RX1 32 yX1_barsThree ∈ BIG := List.mem_of_getElem? (i := 478) (by decide +kernel)
theorem wi_X1_barsThree : Cond.instanceMethod yX1_barsThree ∈ BIG := List.mem_of_getElem? (i := 479) (by decide +kernel)
theorem wse_X1_barsThree : Cond.selects RX1 yX1_barsThree yX1_barsThree ∈ BIG := List.mem_of_getElem? (i := 480) (by decide +kernel)
theorem wc_X1_barsThree : Cond.code yX1_barsThree cX1_barsThree 5 (some .boolean) ∈ BIG := List.mem_of_getElem? (i := 481) (by decide +kernel)
theorem wm_X1_39 : Cond.methodLink RX1 39 yX0_bend ∈ BIG := List.mem_of_getElem? (i := 482) (by decide +kernel)
theorem wm_X1_43 : Cond.methodLink RX1 43 yX1_isBeyondChord ∈ BIG := List.mem_of_getElem? (i := 483) (by decide +kernel)
theorem wi_X1_isBeyondChord : Cond.instanceMethod yX1_isBeyondChord ∈ BIG := List.mem_of_getElem? (i := 484) (by decide +kernel)
theorem wse_X1_isBeyondChord : Cond.selects RX1 yX1_isBeyondChord yX1_isBeyondChord ∈ BIG := List.mem_of_getElem? (i := 485) (by decide +kernel)
theorem wc_X1_isBeyondChord : Cond.code yX1_isBeyondChord cX1_isBeyondChord 5 (some .boolean) ∈ BIG := List.mem_of_getElem? (i := 486) (by decide +kernel)
theorem wf_X1_54 : Cond.fieldLink RX1 54 "StandingArch$Arch" "high" "[I" ∈ BIG := List.mem_of_getElem? (i := 487) (by decide +kernel)
theorem wf_X1_57 : Cond.fieldLink RX1 57 "StandingArch$Arch" "low" "[I" ∈ BIG := List.mem_of_getElem? (i := 488) (by decide +kernel)
theorem wm_X1_60 : Cond.methodLink RX1 60 yX0_rise ∈ BIG := List.mem_of_getElem? (i := 489) (by decide +kernel)
theorem wm_X1_46 : Cond.methodLink RX1 46 yX1_keep ∈ BIG := List.mem_of_getElem? (i := 490) (by decide +kernel)
theorem wi_X1_keep : Cond.instanceMethod yX1_keep ∈ BIG := List.mem_of_getElem? (i := 491) (by decide +kernel)
theorem wse_X1_keep : Cond.selects RX1 yX1_keep yX1_keep ∈ BIG := List.mem_of_getElem? (i := 492) (by decide +kernel)
theorem wc_X1_keep : Cond.code yX1_keep cX1_keep 5 none ∈ BIG := List.mem_of_getElem? (i := 493) (by decide +kernel)
theorem wm_X1_36 : Cond.methodLink RX1 36 yX1_barsFour ∈ BIG := List.mem_of_getElem? (i := 494) (by decide +kernel)
theorem wi_X1_barsFour : Cond.instanceMethod yX1_barsFour ∈ BIG := List.mem_of_getElem? (i := 495) (by decide +kernel)
theorem wse_X1_barsFour : Cond.selects RX1 yX1_barsFour yX1_barsFour ∈ BIG := List.mem_of_getElem? (i := 496) (by decide +kernel)
theorem wc_X1_barsFour : Cond.code yX1_barsFour cX1_barsFour 6 (some .boolean) ∈ BIG := List.mem_of_getElem? (i := 497) (by decide +kernel)
theorem wm_X1_50 : Cond.methodLink RX1 50 yX1_isCrossed ∈ BIG := List.mem_of_getElem? (i := 498) (by decide +kernel)
theorem wi_X1_isCrossed : Cond.instanceMethod yX1_isCrossed ∈ BIG := List.mem_of_getElem? (i := 499) (by decide +kernel)
theorem wse_X1_isCrossed : Cond.selects RX1 yX1_isCrossed yX1_isCrossed ∈ BIG := List.mem_of_getElem? (i := 500) (by decide +kernel)
theorem wc_X1_isCrossed : Cond.code yX1_isCrossed cX1_isCrossed 10 (some .boolean) ∈ BIG := List.mem_of_getElem? (i := 501) (by decide +kernel)
theorem wm_L_70 : Cond.methodLink RL 70 yX7_bar ∈ BIG := List.mem_of_getElem? (i := 502) (by decide +kernel)
theorem wi_X7_bar : Cond.instanceMethod yX7_bar ∈ BIG := List.mem_of_getElem? (i := 503) (by decide +kernel)
theorem wse_X7_bar : Cond.selects RX7 yX7_bar yX7_bar ∈ BIG := List.mem_of_getElem? (i := 504) (by decide +kernel)
theorem wc_X7_bar : Cond.code yX7_bar cX7_bar 2 (some .int) ∈ BIG := List.mem_of_getElem? (i := 505) (by decide +kernel)
theorem wf_X7_184 : Cond.fieldLink RX7 184 "StandingArchModel" "bars" "I" ∈ BIG := List.mem_of_getElem? (i := 506) (by decide +kernel)
theorem wm_X7_180 : Cond.methodLink RX7 180 yX7_findBars ∈ BIG := List.mem_of_getElem? (i := 507) (by decide +kernel)
theorem wi_X7_findBars : Cond.instanceMethod yX7_findBars ∈ BIG := List.mem_of_getElem? (i := 508) (by decide +kernel)
theorem wse_X7_findBars : Cond.selects RX7 yX7_findBars yX7_findBars ∈ BIG := List.mem_of_getElem? (i := 509) (by decide +kernel)
theorem wc_X7_findBars : Cond.code yX7_findBars cX7_findBars 1 (some .int) ∈ BIG := List.mem_of_getElem? (i := 510) (by decide +kernel)
theorem wm_X7_171 : Cond.methodLink RX7 171 yX7_areTwo ∈ BIG := List.mem_of_getElem? (i := 511) (by decide +kernel)
theorem wi_X7_areTwo : Cond.instanceMethod yX7_areTwo ∈ BIG := List.mem_of_getElem? (i := 512) (by decide +kernel)
theorem wse_X7_areTwo : Cond.selects RX7 yX7_areTwo yX7_areTwo ∈ BIG := List.mem_of_getElem? (i := 513) (by decide +kernel)
theorem wc_X7_areTwo : Cond.code yX7_areTwo cX7_areTwo 2 (some .boolean) ∈ BIG := List.mem_of_getElem? (i := 514) (by decide +kernel)
theorem wm_X7_163 : Cond.methodLink RX7 163 yX7_isAgainst ∈ BIG := List.mem_of_getElem? (i := 515) (by decide +kernel)
theorem wi_X7_isAgainst : Cond.instanceMethod yX7_isAgainst ∈ BIG := List.mem_of_getElem? (i := 516) (by decide +kernel)
theorem wse_X7_isAgainst : Cond.selects RX7 yX7_isAgainst yX7_isAgainst ∈ BIG := List.mem_of_getElem? (i := 517) (by decide +kernel)
theorem wc_X7_isAgainst : Cond.code yX7_isAgainst cX7_isAgainst 14 (some .boolean) ∈ BIG := List.mem_of_getElem? (i := 518) (by decide +kernel)
theorem wm_X7_159 : Cond.methodLink RX7 159 yX7_summed ∈ BIG := List.mem_of_getElem? (i := 519) (by decide +kernel)
theorem wi_X7_summed : Cond.instanceMethod yX7_summed ∈ BIG := List.mem_of_getElem? (i := 520) (by decide +kernel)
theorem wse_X7_summed : Cond.selects RX7 yX7_summed yX7_summed ∈ BIG := List.mem_of_getElem? (i := 521) (by decide +kernel)
theorem wc_X7_summed : Cond.code yX7_summed cX7_summed 13 (some .long) ∈ BIG := List.mem_of_getElem? (i := 522) (by decide +kernel)
theorem wm_X7_174 : Cond.methodLink RX7 174 yX7_areThree ∈ BIG := List.mem_of_getElem? (i := 523) (by decide +kernel)
theorem wi_X7_areThree : Cond.instanceMethod yX7_areThree ∈ BIG := List.mem_of_getElem? (i := 524) (by decide +kernel)
theorem wse_X7_areThree : Cond.selects RX7 yX7_areThree yX7_areThree ∈ BIG := List.mem_of_getElem? (i := 525) (by decide +kernel)
theorem wc_X7_areThree : Cond.code yX7_areThree cX7_areThree 4 (some .boolean) ∈ BIG := List.mem_of_getElem? (i := 526) (by decide +kernel)
theorem wm_X7_167 : Cond.methodLink RX7 167 yX7_pair ∈ BIG := List.mem_of_getElem? (i := 527) (by decide +kernel)
theorem wi_X7_pair : Cond.instanceMethod yX7_pair ∈ BIG := List.mem_of_getElem? (i := 528) (by decide +kernel)
theorem wse_X7_pair : Cond.selects RX7 yX7_pair yX7_pair ∈ BIG := List.mem_of_getElem? (i := 529) (by decide +kernel)
theorem wc_X7_pair : Cond.code yX7_pair cX7_pair 5 (some .long) ∈ BIG := List.mem_of_getElem? (i := 530) (by decide +kernel)
theorem wm_X7_177 : Cond.methodLink RX7 177 yX7_areFour ∈ BIG := List.mem_of_getElem? (i := 531) (by decide +kernel)
theorem wi_X7_areFour : Cond.instanceMethod yX7_areFour ∈ BIG := List.mem_of_getElem? (i := 532) (by decide +kernel)
theorem wse_X7_areFour : Cond.selects RX7 yX7_areFour yX7_areFour ∈ BIG := List.mem_of_getElem? (i := 533) (by decide +kernel)
theorem wc_X7_areFour : Cond.code yX7_areFour cX7_areFour 9 (some .boolean) ∈ BIG := List.mem_of_getElem? (i := 534) (by decide +kernel)
theorem wm_L_71 : Cond.methodLink RL 71 yX6_fits ∈ BIG := List.mem_of_getElem? (i := 535) (by decide +kernel)
theorem wi_X6_fits : Cond.instanceMethod yX6_fits ∈ BIG := List.mem_of_getElem? (i := 536) (by decide +kernel)
theorem wse_X6_fits : Cond.selects RX6 yX6_fits yX6_fits ∈ BIG := List.mem_of_getElem? (i := 537) (by decide +kernel)
theorem wc_X6_fits : Cond.code yX6_fits cX6_fits 12 (some .int) ∈ BIG := List.mem_of_getElem? (i := 538) (by decide +kernel)
theorem wm_L_74 : Cond.methodLink RL 74 yX7_fits ∈ BIG := List.mem_of_getElem? (i := 539) (by decide +kernel)
theorem wi_X7_fits : Cond.instanceMethod yX7_fits ∈ BIG := List.mem_of_getElem? (i := 540) (by decide +kernel)
theorem wse_X7_fits : Cond.selects RX7 yX7_fits yX7_fits ∈ BIG := List.mem_of_getElem? (i := 541) (by decide +kernel)
theorem wc_X7_fits : Cond.code yX7_fits cX7_fits 5 (some .int) ∈ BIG := List.mem_of_getElem? (i := 542) (by decide +kernel)
theorem wk_X7_157 : Cond.constantLong RX7 157 (1000) ∈ BIG := List.mem_of_getElem? (i := 543) (by decide +kernel)
theorem wm_L_75 : Cond.methodLink RL 75 yX6_factor ∈ BIG := List.mem_of_getElem? (i := 544) (by decide +kernel)
theorem wi_X6_factor : Cond.instanceMethod yX6_factor ∈ BIG := List.mem_of_getElem? (i := 545) (by decide +kernel)
theorem wse_X6_factor : Cond.selects RX6 yX6_factor yX6_factor ∈ BIG := List.mem_of_getElem? (i := 546) (by decide +kernel)
theorem wc_X6_factor : Cond.code yX6_factor cX6_factor 2 (some .long) ∈ BIG := List.mem_of_getElem? (i := 547) (by decide +kernel)
theorem wm_X6_202 : Cond.methodLink RX6 202 yX5_leastFactor ∈ BIG := List.mem_of_getElem? (i := 548) (by decide +kernel)
theorem wi_X5_leastFactor : Cond.instanceMethod yX5_leastFactor ∈ BIG := List.mem_of_getElem? (i := 549) (by decide +kernel)
theorem wse_X5_leastFactor : Cond.selects RX5 yX5_leastFactor yX5_leastFactor ∈ BIG := List.mem_of_getElem? (i := 550) (by decide +kernel)
theorem wc_X5_leastFactor : Cond.code yX5_leastFactor cX5_leastFactor 7 (some .boolean) ∈ BIG := List.mem_of_getElem? (i := 551) (by decide +kernel)
theorem wf_X5_79 : Cond.fieldLink RX5 79 "StandingArch$Fraction" "above" "J" ∈ BIG := List.mem_of_getElem? (i := 552) (by decide +kernel)
theorem wf_X5_83 : Cond.fieldLink RX5 83 "StandingArch$Fraction" "below" "J" ∈ BIG := List.mem_of_getElem? (i := 553) (by decide +kernel)
theorem wm_X5_75 : Cond.methodLink RX5 75 yX5_straightFactor ∈ BIG := List.mem_of_getElem? (i := 554) (by decide +kernel)
theorem wi_X5_straightFactor : Cond.instanceMethod yX5_straightFactor ∈ BIG := List.mem_of_getElem? (i := 555) (by decide +kernel)
theorem wse_X5_straightFactor : Cond.selects RX5 yX5_straightFactor yX5_straightFactor ∈ BIG := List.mem_of_getElem? (i := 556) (by decide +kernel)
theorem wc_X5_straightFactor : Cond.code yX5_straightFactor cX5_straightFactor 5 (some .boolean) ∈ BIG := List.mem_of_getElem? (i := 557) (by decide +kernel)
theorem wm_L_79 : Cond.methodLink RL 79 yX7_factor ∈ BIG := List.mem_of_getElem? (i := 558) (by decide +kernel)
theorem wi_X7_factor : Cond.instanceMethod yX7_factor ∈ BIG := List.mem_of_getElem? (i := 559) (by decide +kernel)
theorem wse_X7_factor : Cond.selects RX7 yX7_factor yX7_factor ∈ BIG := List.mem_of_getElem? (i := 560) (by decide +kernel)
theorem wc_X7_factor : Cond.code yX7_factor cX7_factor 2 (some .long) ∈ BIG := List.mem_of_getElem? (i := 561) (by decide +kernel)
theorem wf_X7_194 : Cond.fieldLink RX7 194 "StandingArchModel" "factorAbove" "J" ∈ BIG := List.mem_of_getElem? (i := 562) (by decide +kernel)
theorem wf_X7_191 : Cond.fieldLink RX7 191 "StandingArchModel" "factorBelow" "J" ∈ BIG := List.mem_of_getElem? (i := 563) (by decide +kernel)
theorem wm_X7_201 : Cond.methodLink RX7 201 yX7_findFactor ∈ BIG := List.mem_of_getElem? (i := 564) (by decide +kernel)
theorem wi_X7_findFactor : Cond.instanceMethod yX7_findFactor ∈ BIG := List.mem_of_getElem? (i := 565) (by decide +kernel)
theorem wse_X7_findFactor : Cond.selects RX7 yX7_findFactor yX7_findFactor ∈ BIG := List.mem_of_getElem? (i := 566) (by decide +kernel)
theorem wc_X7_findFactor : Cond.code yX7_findFactor cX7_findFactor 7 (some .boolean) ∈ BIG := List.mem_of_getElem? (i := 567) (by decide +kernel)
theorem wm_X7_197 : Cond.methodLink RX7 197 yX7_meetFour ∈ BIG := List.mem_of_getElem? (i := 568) (by decide +kernel)
theorem wi_X7_meetFour : Cond.instanceMethod yX7_meetFour ∈ BIG := List.mem_of_getElem? (i := 569) (by decide +kernel)
theorem wse_X7_meetFour : Cond.selects RX7 yX7_meetFour yX7_meetFour ∈ BIG := List.mem_of_getElem? (i := 570) (by decide +kernel)
theorem wc_X7_meetFour : Cond.code yX7_meetFour cX7_meetFour 5 (some .boolean) ∈ BIG := List.mem_of_getElem? (i := 571) (by decide +kernel)
theorem wm_X7_187 : Cond.methodLink RX7 187 yX7_four ∈ BIG := List.mem_of_getElem? (i := 572) (by decide +kernel)
theorem wi_X7_four : Cond.instanceMethod yX7_four ∈ BIG := List.mem_of_getElem? (i := 573) (by decide +kernel)
theorem wse_X7_four : Cond.selects RX7 yX7_four yX7_four ∈ BIG := List.mem_of_getElem? (i := 574) (by decide +kernel)
theorem wc_X7_four : Cond.code yX7_four cX7_four 9 (some .long) ∈ BIG := List.mem_of_getElem? (i := 575) (by decide +kernel)
theorem wm_L_80 : Cond.methodLink RL 80 yX6_harms ∈ BIG := List.mem_of_getElem? (i := 576) (by decide +kernel)
theorem wi_X6_harms : Cond.instanceMethod yX6_harms ∈ BIG := List.mem_of_getElem? (i := 577) (by decide +kernel)
theorem wse_X6_harms : Cond.selects RX6 yX6_harms yX6_harms ∈ BIG := List.mem_of_getElem? (i := 578) (by decide +kernel)
theorem wc_X6_harms : Cond.code yX6_harms cX6_harms 4 (some .int) ∈ BIG := List.mem_of_getElem? (i := 579) (by decide +kernel)
theorem wm_X6_205 : Cond.methodLink RX6 205 arraycopyName ∈ BIG := List.mem_of_getElem? (i := 580) (by decide +kernel)
theorem wna_arraycopy : Cond.native arraycopyName ∈ BIG := List.mem_of_getElem? (i := 581) (by decide +kernel)
theorem wst_arraycopy : Cond.static arraycopyName ∈ BIG := List.mem_of_getElem? (i := 582) (by decide +kernel)
theorem win_System : Cond.initialized "java/lang/System" ∈ BIG := List.mem_of_getElem? (i := 583) (by decide +kernel)
theorem wm_X6_211 : Cond.methodLink RX6 211 yX2_isAbove ∈ BIG := List.mem_of_getElem? (i := 584) (by decide +kernel)
theorem wi_X2_isAbove : Cond.instanceMethod yX2_isAbove ∈ BIG := List.mem_of_getElem? (i := 585) (by decide +kernel)
theorem wse_X2_isAbove : Cond.selects RX2 yX2_isAbove yX2_isAbove ∈ BIG := List.mem_of_getElem? (i := 586) (by decide +kernel)
theorem wc_X2_isAbove : Cond.code yX2_isAbove cX2_isAbove 2 (some .boolean) ∈ BIG := List.mem_of_getElem? (i := 587) (by decide +kernel)
theorem wm_L_83 : Cond.methodLink RL 83 yX7_harms ∈ BIG := List.mem_of_getElem? (i := 588) (by decide +kernel)
theorem wi_X7_harms : Cond.instanceMethod yX7_harms ∈ BIG := List.mem_of_getElem? (i := 589) (by decide +kernel)
theorem wse_X7_harms : Cond.selects RX7 yX7_harms yX7_harms ∈ BIG := List.mem_of_getElem? (i := 590) (by decide +kernel)
theorem wc_X7_harms : Cond.code yX7_harms cX7_harms 9 (some .int) ∈ BIG := List.mem_of_getElem? (i := 591) (by decide +kernel)
theorem wm_L_84 : Cond.methodLink RL 84 yX6_falls ∈ BIG := List.mem_of_getElem? (i := 592) (by decide +kernel)
theorem wi_X6_falls : Cond.instanceMethod yX6_falls ∈ BIG := List.mem_of_getElem? (i := 593) (by decide +kernel)
theorem wse_X6_falls : Cond.selects RX6 yX6_falls yX6_falls ∈ BIG := List.mem_of_getElem? (i := 594) (by decide +kernel)
theorem wc_X6_falls : Cond.code yX6_falls cX6_falls 5 (some .int) ∈ BIG := List.mem_of_getElem? (i := 595) (by decide +kernel)
theorem wm_L_87 : Cond.methodLink RL 87 yX7_falls ∈ BIG := List.mem_of_getElem? (i := 596) (by decide +kernel)
theorem wi_X7_falls : Cond.instanceMethod yX7_falls ∈ BIG := List.mem_of_getElem? (i := 597) (by decide +kernel)
theorem wse_X7_falls : Cond.selects RX7 yX7_falls yX7_falls ∈ BIG := List.mem_of_getElem? (i := 598) (by decide +kernel)
theorem wc_X7_falls : Cond.code yX7_falls cX7_falls 5 (some .int) ∈ BIG := List.mem_of_getElem? (i := 599) (by decide +kernel)
theorem wm_L_88 : Cond.methodLink RL 88 yX6_spread ∈ BIG := List.mem_of_getElem? (i := 600) (by decide +kernel)
theorem wi_X6_spread : Cond.instanceMethod yX6_spread ∈ BIG := List.mem_of_getElem? (i := 601) (by decide +kernel)
theorem wse_X6_spread : Cond.selects RX6 yX6_spread yX6_spread ∈ BIG := List.mem_of_getElem? (i := 602) (by decide +kernel)
theorem wc_X6_spread : Cond.code yX6_spread cX6_spread 3 (some .int) ∈ BIG := List.mem_of_getElem? (i := 603) (by decide +kernel)
theorem wm_L_91 : Cond.methodLink RL 91 yX7_spread ∈ BIG := List.mem_of_getElem? (i := 604) (by decide +kernel)
theorem wi_X7_spread : Cond.instanceMethod yX7_spread ∈ BIG := List.mem_of_getElem? (i := 605) (by decide +kernel)
theorem wse_X7_spread : Cond.selects RX7 yX7_spread yX7_spread ∈ BIG := List.mem_of_getElem? (i := 606) (by decide +kernel)
theorem wc_X7_spread : Cond.code yX7_spread cX7_spread 2 (some .int) ∈ BIG := List.mem_of_getElem? (i := 607) (by decide +kernel)
theorem wk_X7_204 : Cond.constantLong RX7 204 (-10) ∈ BIG := List.mem_of_getElem? (i := 608) (by decide +kernel)
theorem gv_X6_59 : GoodIn BIG (wsV RX6 59 RX0 yX0_renew (Cond.code yX0_renew cX0_renew 3 (none) :: BIG)) := good_V wm_X6_59 wi_X0_renew wse_X0_renew win_X0 wc_X0_renew
theorem gv_X7_51 : GoodIn BIG (wsV RX7 51 RX7 yX7_begin (Cond.code yX7_begin cX7_begin 3 (none) :: BIG)) := good_V wm_X7_51 wi_X7_begin wse_X7_begin win_X7 wc_X7_begin
theorem gv_L_13 : GoodIn BIG (wsV RL 13 RX6 yX6_joints (Cond.code yX6_joints cX6_joints 2 ((some .int)) :: BIG)) := good_V wm_L_13 wi_X6_joints wse_X6_joints win_X6 wc_X6_joints
theorem gv_L_17 : GoodIn BIG (wsV RL 17 RX7 yX7_joints (Cond.code yX7_joints cX7_joints 2 ((some .int)) :: BIG)) := good_V wm_L_17 wi_X7_joints wse_X7_joints win_X7 wc_X7_joints
theorem gs_X7_59 : GoodIn BIG (wsS RX7 59 yX7_in (Cond.code yX7_in cX7_in 6 ((some .boolean)) :: BIG)) := good_S wm_X7_59 wst_X7_in win_X7 wc_X7_in
theorem gv_L_18 : GoodIn BIG (wsV RL 18 RX6 yX6_at (Cond.code yX6_at cX6_at 4 ((some .int)) :: BIG)) := good_V wm_L_18 wi_X6_at wse_X6_at win_X6 wc_X6_at
theorem gv_L_22 : GoodIn BIG (wsV RL 22 RX7 yX7_at (Cond.code yX7_at cX7_at 4 ((some .int)) :: BIG)) := good_V wm_L_22 wi_X7_at wse_X7_at win_X7 wc_X7_at
theorem gv_L_23 : GoodIn BIG (wsV RL 23 RX6 yX6_edges (Cond.code yX6_edges cX6_edges 4 ((some .int)) :: BIG)) := good_V wm_L_23 wi_X6_edges wse_X6_edges win_X6 wc_X6_edges
theorem gv_X6_71 : GoodIn BIG (wsV RX6 71 RX0 yX0_hasJoint (Cond.code yX0_hasJoint cX0_hasJoint 2 ((some .boolean)) :: BIG)) := good_V wm_X6_71 wi_X0_hasJoint wse_X0_hasJoint win_X0 wc_X0_hasJoint
theorem gs_X6_75 : GoodIn BIG (wsS RX6 75 yX6_areEdges (Cond.code yX6_areEdges cX6_areEdges 2 ((some .boolean)) :: BIG)) := good_S wm_X6_75 wst_X6_areEdges win_X6 wc_X6_areEdges
theorem gs_X6_196 : GoodIn BIG (wsS RX6 196 yX6_isHeight (Cond.code yX6_isHeight cX6_isHeight 1 ((some .boolean)) :: BIG)) := good_S wm_X6_196 wst_X6_isHeight win_X6 wc_X6_isHeight
theorem gv_L_27 : GoodIn BIG (wsV RL 27 RX7 yX7_edges (Cond.code yX7_edges cX7_edges 4 ((some .int)) :: BIG)) := good_V wm_L_27 wi_X7_edges wse_X7_edges win_X7 wc_X7_edges
theorem gv_L_28 : GoodIn BIG (wsV RL 28 RX6 yX6_load (Cond.code yX6_load cX6_load 4 ((some .int)) :: BIG)) := good_V wm_L_28 wi_X6_load wse_X6_load win_X6 wc_X6_load
theorem gv_X6_85 : GoodIn BIG (wsV RX6 85 RX0 yX0_hasInnerJoint (Cond.code yX0_hasInnerJoint cX0_hasInnerJoint 2 ((some .boolean)) :: BIG)) := good_V wm_X6_85 wi_X0_hasInnerJoint wse_X0_hasInnerJoint win_X0 wc_X0_hasInnerJoint
theorem gs_X6_88 : GoodIn BIG (wsS RX6 88 yX6_isLoad (Cond.code yX6_isLoad cX6_isLoad 1 ((some .boolean)) :: BIG)) := good_S wm_X6_88 wst_X6_isLoad win_X6 wc_X6_isLoad
theorem gv_L_31 : GoodIn BIG (wsV RL 31 RX7 yX7_load (Cond.code yX7_load cX7_load 4 ((some .int)) :: BIG)) := good_V wm_L_31 wi_X7_load wse_X7_load win_X7 wc_X7_load
theorem gv_L_32 : GoodIn BIG (wsV RL 32 RX6 yX6_sheet (Cond.code yX6_sheet cX6_sheet 4 ((some .int)) :: BIG)) := good_V wm_L_32 wi_X6_sheet wse_X6_sheet win_X6 wc_X6_sheet
theorem gs_X6_94 : GoodIn BIG (wsS RX6 94 yX6_isSheet (Cond.code yX6_isSheet cX6_isSheet 1 ((some .boolean)) :: BIG)) := good_S wm_X6_94 wst_X6_isSheet win_X6 wc_X6_isSheet
theorem gs_X6_97 : GoodIn BIG (wsS RX6 97 yX6_isLane (Cond.code yX6_isLane cX6_isLane 1 ((some .boolean)) :: BIG)) := good_S wm_X6_97 wst_X6_isLane win_X6 wc_X6_isLane
theorem gv_X6_100 : GoodIn BIG (wsV RX6 100 RX4 yX4_hold (Cond.code yX4_hold cX4_hold 3 (none) :: BIG)) := good_V wm_X6_100 wi_X4_hold wse_X4_hold win_X4 wc_X4_hold
theorem gv_L_35 : GoodIn BIG (wsV RL 35 RX7 yX7_sheet (Cond.code yX7_sheet cX7_sheet 5 ((some .int)) :: BIG)) := good_V wm_L_35 wi_X7_sheet wse_X7_sheet win_X7 wc_X7_sheet
theorem gs_X7_71 : GoodIn BIG (wsS RX7 71 yX7_isSheet (Cond.code yX7_isSheet cX7_isSheet 2 ((some .boolean)) :: BIG)) := good_S wm_X7_71 wst_X7_isSheet win_X7 wc_X7_isSheet
theorem gv_L_36 : GoodIn BIG (wsV RL 36 RX6 yX6_drop (Cond.code yX6_drop cX6_drop 2 ((some .int)) :: BIG)) := good_V wm_L_36 wi_X6_drop wse_X6_drop win_X6 wc_X6_drop
theorem gv_L_39 : GoodIn BIG (wsV RL 39 RX7 yX7_drop (Cond.code yX7_drop cX7_drop 2 ((some .int)) :: BIG)) := good_V wm_L_39 wi_X7_drop wse_X7_drop win_X7 wc_X7_drop
theorem gv_L_40 : GoodIn BIG (wsV RL 40 RX6 yX6_item (Cond.code yX6_item cX6_item 7 ((some .int)) :: BIG)) := good_V wm_L_40 wi_X6_item wse_X6_item win_X6 wc_X6_item
theorem gv_X6_111 : GoodIn BIG (wsV RX6 111 RX6 yX6_refusalOfRow (Cond.code yX6_refusalOfRow cX6_refusalOfRow 3 ((some .int)) :: BIG)) := good_V wm_X6_111 wi_X6_refusalOfRow wse_X6_refusalOfRow win_X6 wc_X6_refusalOfRow
theorem gv_L_44 : GoodIn BIG (wsV RL 44 RX7 yX7_item (Cond.code yX7_item cX7_item 5 ((some .int)) :: BIG)) := good_V wm_L_44 wi_X7_item wse_X7_item win_X7 wc_X7_item
theorem gv_L_45 : GoodIn BIG (wsV RL 45 RX6 yX6_read (Cond.code yX6_read cX6_read 6 ((some .int)) :: BIG)) := good_V wm_L_45 wi_X6_read wse_X6_read win_X6 wc_X6_read
theorem gv_X6_118 : GoodIn BIG (wsV RX6 118 RX0 yX0_mayTake (Cond.code yX0_mayTake cX0_mayTake 7 ((some .boolean)) :: BIG)) := good_V wm_X6_118 wi_X0_mayTake wse_X0_mayTake win_X0 wc_X0_mayTake
theorem gv_X6_122 : GoodIn BIG (wsV RX6 122 RX0 yX0_take (Cond.code yX0_take cX0_take 5 (none) :: BIG)) := good_V wm_X6_122 wi_X0_take wse_X0_take win_X0 wc_X0_take
theorem gv_X0_39 : GoodIn BIG (wsV RX0 39 RX0 yX0_hasInnerJoint (Cond.code yX0_hasInnerJoint cX0_hasInnerJoint 2 ((some .boolean)) :: BIG)) := good_V wm_X0_39 wi_X0_hasInnerJoint wse_X0_hasInnerJoint win_X0 wc_X0_hasInnerJoint
theorem gv_L_48 : GoodIn BIG (wsV RL 48 RX7 yX7_read (Cond.code yX7_read cX7_read 9 ((some .int)) :: BIG)) := good_V wm_L_48 wi_X7_read wse_X7_read win_X7 wc_X7_read
theorem gv_L_49 : GoodIn BIG (wsV RL 49 RX6 yX6_told (Cond.code yX6_told cX6_told 3 ((some .int)) :: BIG)) := good_V wm_L_49 wi_X6_told wse_X6_told win_X6 wc_X6_told
theorem gv_X6_127 : GoodIn BIG (wsV RX6 127 RX0 yX0_weigh (Cond.code yX0_weigh cX0_weigh 7 (none) :: BIG)) := good_V wm_X6_127 wi_X0_weigh wse_X0_weigh win_X0 wc_X0_weigh
theorem gv_X0_42 : GoodIn BIG (wsV RX0 42 RX0 yX0_span (Cond.code yX0_span cX0_span 1 ((some .int)) :: BIG)) := good_V wm_X0_42 wi_X0_span wse_X0_span win_X0 wc_X0_span
theorem gv_L_52 : GoodIn BIG (wsV RL 52 RX7 yX7_told (Cond.code yX7_told cX7_told 3 ((some .int)) :: BIG)) := good_V wm_L_52 wi_X7_told wse_X7_told win_X7 wc_X7_told
theorem gv_X7_78 : GoodIn BIG (wsV RX7 78 RX7 yX7_momentAt (Cond.code yX7_momentAt cX7_momentAt 4 ((some .int)) :: BIG)) := good_V wm_X7_78 wi_X7_momentAt wse_X7_momentAt win_X7 wc_X7_momentAt
theorem gv_L_53 : GoodIn BIG (wsV RL 53 RX6 yX6_stands (Cond.code yX6_stands cX6_stands 1 ((some .int)) :: BIG)) := good_V wm_L_53 wi_X6_stands wse_X6_stands win_X6 wc_X6_stands
theorem gv_X6_134 : GoodIn BIG (wsV RX6 134 RX6 yX6_holdsUnder (Cond.code yX6_holdsUnder cX6_holdsUnder 2 ((some .boolean)) :: BIG)) := good_V wm_X6_134 wi_X6_holdsUnder wse_X6_holdsUnder win_X6 wc_X6_holdsUnder
theorem gv_X6_199 : GoodIn BIG (wsV RX6 199 RX5 yX5_gather (Cond.code yX5_gather cX5_gather 9 (none) :: BIG)) := good_V wm_X6_199 wi_X5_gather wse_X5_gather win_X5 wc_X5_gather
theorem gv_X5_23 : GoodIn BIG (wsV RX5 23 RX0 yX0_weigh (Cond.code yX0_weigh cX0_weigh 7 (none) :: BIG)) := good_V wm_X5_23 wi_X0_weigh wse_X0_weigh win_X0 wc_X0_weigh
theorem gv_X5_43 : GoodIn BIG (wsV RX5 43 RX0 yX0_rise (Cond.code yX0_rise cX0_rise 8 ((some .long)) :: BIG)) := good_V wm_X5_43 wi_X0_rise wse_X0_rise win_X0 wc_X0_rise
theorem gv_X5_47 : GoodIn BIG (wsV RX5 47 RX0 yX0_bend (Cond.code yX0_bend cX0_bend 4 ((some .long)) :: BIG)) := good_V wm_X5_47 wi_X0_bend wse_X0_bend win_X0 wc_X0_bend
theorem gv_X0_46 : GoodIn BIG (wsV RX0 46 RX0 yX0_rise (Cond.code yX0_rise cX0_rise 8 ((some .long)) :: BIG)) := good_V wm_X0_46 wi_X0_rise wse_X0_rise win_X0 wc_X0_rise
theorem gv_X6_214 : GoodIn BIG (wsV RX6 214 RX5 yX5_hold (Cond.code yX5_hold cX5_hold 2 ((some .boolean)) :: BIG)) := good_V wm_X6_214 wi_X5_hold wse_X5_hold win_X5 wc_X5_hold
theorem gv_X5_56 : GoodIn BIG (wsV RX5 56 RX5 yX5_tightestLeast (Cond.code yX5_tightestLeast cX5_tightestLeast 7 ((some .int)) :: BIG)) := good_V wm_X5_56 wi_X5_tightestLeast wse_X5_tightestLeast win_X5 wc_X5_tightestLeast
theorem gv_X5_86 : GoodIn BIG (wsV RX5 86 RX5 yX5_least (Cond.code yX5_least cX5_least 6 ((some .long)) :: BIG)) := good_V wm_X5_86 wi_X5_least wse_X5_least win_X5 wc_X5_least
theorem gv_X5_60 : GoodIn BIG (wsV RX5 60 RX5 yX5_tightestMost (Cond.code yX5_tightestMost cX5_tightestMost 7 ((some .int)) :: BIG)) := good_V wm_X5_60 wi_X5_tightestMost wse_X5_tightestMost win_X5 wc_X5_tightestMost
theorem gv_X5_90 : GoodIn BIG (wsV RX5 90 RX5 yX5_most (Cond.code yX5_most cX5_most 6 ((some .long)) :: BIG)) := good_V wm_X5_90 wi_X5_most wse_X5_most win_X5 wc_X5_most
theorem gv_X5_63 : GoodIn BIG (wsV RX5 63 RX5 yX5_bars (Cond.code yX5_bars cX5_bars 7 ((some .boolean)) :: BIG)) := good_V wm_X5_63 wi_X5_bars wse_X5_bars win_X5 wc_X5_bars
theorem gv_L_57 : GoodIn BIG (wsV RL 57 RX7 yX7_stands (Cond.code yX7_stands cX7_stands 1 ((some .int)) :: BIG)) := good_V wm_L_57 wi_X7_stands wse_X7_stands win_X7 wc_X7_stands
theorem gv_X7_141 : GoodIn BIG (wsV RX7 141 RX7 yX7_findLines (Cond.code yX7_findLines cX7_findLines 4 (none) :: BIG)) := good_V wm_X7_141 wi_X7_findLines wse_X7_findLines win_X7 wc_X7_findLines
theorem gv_X7_110 : GoodIn BIG (wsV RX7 110 RX7 yX7_findRows (Cond.code yX7_findRows cX7_findRows 15 (none) :: BIG)) := good_V wm_X7_110 wi_X7_findRows wse_X7_findRows win_X7 wc_X7_findRows
theorem gv_X7_82 : GoodIn BIG (wsV RX7 82 RX7 yX7_setRow (Cond.code yX7_setRow cX7_setRow 12 (none) :: BIG)) := good_V wm_X7_82 wi_X7_setRow wse_X7_setRow win_X7 wc_X7_setRow
theorem gv_X7_118 : GoodIn BIG (wsV RX7 118 RX7 yX7_meetThree (Cond.code yX7_meetThree cX7_meetThree 4 ((some .boolean)) :: BIG)) := good_V wm_X7_118 wi_X7_meetThree wse_X7_meetThree win_X7 wc_X7_meetThree
theorem gv_X7_95 : GoodIn BIG (wsV RX7 95 RX7 yX7_three (Cond.code yX7_three cX7_three 13 ((some .long)) :: BIG)) := good_V wm_X7_95 wi_X7_three wse_X7_three win_X7 wc_X7_three
theorem gv_X7_99 : GoodIn BIG (wsV RX7 99 RX7 yX7_turnSpot (Cond.code yX7_turnSpot cX7_turnSpot 2 (none) :: BIG)) := good_V wm_X7_99 wi_X7_turnSpot wse_X7_turnSpot win_X7 wc_X7_turnSpot
theorem gv_X7_102 : GoodIn BIG (wsV RX7 102 RX7 yX7_keepsAll (Cond.code yX7_keepsAll cX7_keepsAll 4 ((some .boolean)) :: BIG)) := good_V wm_X7_102 wi_X7_keepsAll wse_X7_keepsAll win_X7 wc_X7_keepsAll
theorem gv_X7_122 : GoodIn BIG (wsV RX7 122 RX7 yX7_takeSpot (Cond.code yX7_takeSpot cX7_takeSpot 12 (none) :: BIG)) := good_V wm_X7_122 wi_X7_takeSpot wse_X7_takeSpot win_X7 wc_X7_takeSpot
theorem gs_X7_125 : GoodIn BIG (wsS RX7 125 yX7_common (Cond.code yX7_common cX7_common 10 ((some .long)) :: BIG)) := good_S wm_X7_125 wst_X7_common win_X7 wc_X7_common
theorem gs_X7_131 : GoodIn BIG (wsS RX7 131 yX7_compare (Cond.code yX7_compare cX7_compare 25 ((some .int)) :: BIG)) := good_S wm_X7_131 wst_X7_compare win_X7 wc_X7_compare
theorem gs_X7_106 : GoodIn BIG (wsS RX7 106 yX7_down (Cond.code yX7_down cX7_down 6 ((some .long)) :: BIG)) := good_S wm_X7_106 wst_X7_down win_X7 wc_X7_down
theorem gv_L_58 : GoodIn BIG (wsV RL 58 RX6 yX6_thrust (Cond.code yX6_thrust cX6_thrust 4 ((some .long)) :: BIG)) := good_V wm_L_58 wi_X6_thrust wse_X6_thrust win_X6 wc_X6_thrust
theorem gs_X6_138 : GoodIn BIG (wsS RX6 138 yX6_isChoice (Cond.code yX6_isChoice cX6_isChoice 1 ((some .boolean)) :: BIG)) := good_S wm_X6_138 wst_X6_isChoice win_X6 wc_X6_isChoice
theorem gv_X6_145 : GoodIn BIG (wsV RX6 145 RX5 yX5_greatestPush (Cond.code yX5_greatestPush cX5_greatestPush 3 ((some .boolean)) :: BIG)) := good_V wm_X6_145 wi_X5_greatestPush wse_X5_greatestPush win_X5 wc_X5_greatestPush
theorem gv_X5_69 : GoodIn BIG (wsV RX5 69 RX2 yX2_become (Cond.code yX2_become cX2_become 7 (none) :: BIG)) := good_V wm_X5_69 wi_X2_become wse_X2_become win_X2 wc_X2_become
theorem gs_X2_22 : GoodIn BIG (wsS RX2 22 yX2_commonDivisor (Cond.code yX2_commonDivisor cX2_commonDivisor 7 ((some .long)) :: BIG)) := good_S wm_X2_22 wst_X2_commonDivisor win_X2 wc_X2_commonDivisor
theorem gv_X6_149 : GoodIn BIG (wsV RX6 149 RX5 yX5_leastPush (Cond.code yX5_leastPush cX5_leastPush 3 ((some .boolean)) :: BIG)) := good_V wm_X6_149 wi_X5_leastPush wse_X5_leastPush win_X5 wc_X5_leastPush
theorem gv_X6_161 : GoodIn BIG (wsV RX6 161 RX0 yX0_span (Cond.code yX0_span cX0_span 1 ((some .int)) :: BIG)) := good_V wm_X6_161 wi_X0_span wse_X0_span win_X0 wc_X0_span
theorem gv_X6_165 : GoodIn BIG (wsV RX6 165 RX2 yX2_become (Cond.code yX2_become cX2_become 7 (none) :: BIG)) := good_V wm_X6_165 wi_X2_become wse_X2_become win_X2 wc_X2_become
theorem gv_X6_169 : GoodIn BIG (wsV RX6 169 RX2 yX2_part (Cond.code yX2_part cX2_part 2 ((some .long)) :: BIG)) := good_V wm_X6_169 wi_X2_part wse_X2_part win_X2 wc_X2_part
theorem gv_L_62 : GoodIn BIG (wsV RL 62 RX7 yX7_thrust (Cond.code yX7_thrust cX7_thrust 9 ((some .long)) :: BIG)) := good_V wm_L_62 wi_X7_thrust wse_X7_thrust win_X7 wc_X7_thrust
theorem gv_X7_146 : GoodIn BIG (wsV RX7 146 RX7 yX7_isLoose (Cond.code yX7_isLoose cX7_isLoose 3 ((some .boolean)) :: BIG)) := good_V wm_X7_146 wi_X7_isLoose wse_X7_isLoose win_X7 wc_X7_isLoose
theorem gv_L_63 : GoodIn BIG (wsV RL 63 RX6 yX6_height (Cond.code yX6_height cX6_height 3 ((some .long)) :: BIG)) := good_V wm_L_63 wi_X6_height wse_X6_height win_X6 wc_X6_height
theorem gv_X6_179 : GoodIn BIG (wsV RX6 179 RX3 yX3_lay (Cond.code yX3_lay cX3_lay 2 (none) :: BIG)) := good_V wm_X6_179 wi_X3_lay wse_X3_lay win_X3 wc_X3_lay
theorem gv_X3_34 : GoodIn BIG (wsV RX3 34 RX3 yX3_findLeastStart (Cond.code yX3_findLeastStart cX3_findLeastStart 7 (none) :: BIG)) := good_V wm_X3_34 wi_X3_findLeastStart wse_X3_findLeastStart win_X3 wc_X3_findLeastStart
theorem gv_X3_40 : GoodIn BIG (wsV RX3 40 RX3 yX3_straightLow (Cond.code yX3_straightLow cX3_straightLow 2 ((some .long)) :: BIG)) := good_V wm_X3_40 wi_X3_straightLow wse_X3_straightLow win_X3 wc_X3_straightLow
theorem gv_X3_57 : GoodIn BIG (wsV RX3 57 RX3 yX3_straightHigh (Cond.code yX3_straightHigh cX3_straightHigh 2 ((some .long)) :: BIG)) := good_V wm_X3_57 wi_X3_straightHigh wse_X3_straightHigh win_X3 wc_X3_straightHigh
theorem gv_X3_37 : GoodIn BIG (wsV RX3 37 RX3 yX3_findLeastSlope (Cond.code yX3_findLeastSlope cX3_findLeastSlope 6 (none) :: BIG)) := good_V wm_X3_37 wi_X3_findLeastSlope wse_X3_findLeastSlope win_X3 wc_X3_findLeastSlope
theorem gv_X3_63 : GoodIn BIG (wsV RX3 63 RX0 yX0_span (Cond.code yX0_span cX0_span 1 ((some .int)) :: BIG)) := good_V wm_X3_63 wi_X0_span wse_X0_span win_X0 wc_X0_span
theorem gv_X6_183 : GoodIn BIG (wsV RX6 183 RX3 yX3_heightInto (Cond.code yX3_heightInto cX3_heightInto 7 (none) :: BIG)) := good_V wm_X6_183 wi_X3_heightInto wse_X3_heightInto win_X3 wc_X3_heightInto
theorem gv_X3_70 : GoodIn BIG (wsV RX3 70 RX2 yX2_become (Cond.code yX2_become cX2_become 7 (none) :: BIG)) := good_V wm_X3_70 wi_X2_become wse_X2_become win_X2 wc_X2_become
theorem gv_L_66 : GoodIn BIG (wsV RL 66 RX7 yX7_height (Cond.code yX7_height cX7_height 9 ((some .long)) :: BIG)) := good_V wm_L_66 wi_X7_height wse_X7_height win_X7 wc_X7_height
theorem gv_L_67 : GoodIn BIG (wsV RL 67 RX6 yX6_bar (Cond.code yX6_bar cX6_bar 2 ((some .int)) :: BIG)) := good_V wm_L_67 wi_X6_bar wse_X6_bar win_X6 wc_X6_bar
theorem gv_X6_187 : GoodIn BIG (wsV RX6 187 RX1 yX1_find (Cond.code yX1_find cX1_find 1 (none) :: BIG)) := good_V wm_X6_187 wi_X1_find wse_X1_find win_X1 wc_X1_find
theorem gv_X1_23 : GoodIn BIG (wsV RX1 23 RX1 yX1_findFirst (Cond.code yX1_findFirst cX1_findFirst 6 ((some .boolean)) :: BIG)) := good_V wm_X1_23 wi_X1_findFirst wse_X1_findFirst win_X1 wc_X1_findFirst
theorem gv_X1_32 : GoodIn BIG (wsV RX1 32 RX1 yX1_barsThree (Cond.code yX1_barsThree cX1_barsThree 5 ((some .boolean)) :: BIG)) := good_V wm_X1_32 wi_X1_barsThree wse_X1_barsThree win_X1 wc_X1_barsThree
theorem gv_X1_39 : GoodIn BIG (wsV RX1 39 RX0 yX0_bend (Cond.code yX0_bend cX0_bend 4 ((some .long)) :: BIG)) := good_V wm_X1_39 wi_X0_bend wse_X0_bend win_X0 wc_X0_bend
theorem gv_X1_43 : GoodIn BIG (wsV RX1 43 RX1 yX1_isBeyondChord (Cond.code yX1_isBeyondChord cX1_isBeyondChord 5 ((some .boolean)) :: BIG)) := good_V wm_X1_43 wi_X1_isBeyondChord wse_X1_isBeyondChord win_X1 wc_X1_isBeyondChord
theorem gv_X1_60 : GoodIn BIG (wsV RX1 60 RX0 yX0_rise (Cond.code yX0_rise cX0_rise 8 ((some .long)) :: BIG)) := good_V wm_X1_60 wi_X0_rise wse_X0_rise win_X0 wc_X0_rise
theorem gv_X1_46 : GoodIn BIG (wsV RX1 46 RX1 yX1_keep (Cond.code yX1_keep cX1_keep 5 (none) :: BIG)) := good_V wm_X1_46 wi_X1_keep wse_X1_keep win_X1 wc_X1_keep
theorem gv_X1_36 : GoodIn BIG (wsV RX1 36 RX1 yX1_barsFour (Cond.code yX1_barsFour cX1_barsFour 6 ((some .boolean)) :: BIG)) := good_V wm_X1_36 wi_X1_barsFour wse_X1_barsFour win_X1 wc_X1_barsFour
theorem gv_X1_50 : GoodIn BIG (wsV RX1 50 RX1 yX1_isCrossed (Cond.code yX1_isCrossed cX1_isCrossed 10 ((some .boolean)) :: BIG)) := good_V wm_X1_50 wi_X1_isCrossed wse_X1_isCrossed win_X1 wc_X1_isCrossed
theorem gv_L_70 : GoodIn BIG (wsV RL 70 RX7 yX7_bar (Cond.code yX7_bar cX7_bar 2 ((some .int)) :: BIG)) := good_V wm_L_70 wi_X7_bar wse_X7_bar win_X7 wc_X7_bar
theorem gv_X7_180 : GoodIn BIG (wsV RX7 180 RX7 yX7_findBars (Cond.code yX7_findBars cX7_findBars 1 ((some .int)) :: BIG)) := good_V wm_X7_180 wi_X7_findBars wse_X7_findBars win_X7 wc_X7_findBars
theorem gv_X7_171 : GoodIn BIG (wsV RX7 171 RX7 yX7_areTwo (Cond.code yX7_areTwo cX7_areTwo 2 ((some .boolean)) :: BIG)) := good_V wm_X7_171 wi_X7_areTwo wse_X7_areTwo win_X7 wc_X7_areTwo
theorem gv_X7_163 : GoodIn BIG (wsV RX7 163 RX7 yX7_isAgainst (Cond.code yX7_isAgainst cX7_isAgainst 14 ((some .boolean)) :: BIG)) := good_V wm_X7_163 wi_X7_isAgainst wse_X7_isAgainst win_X7 wc_X7_isAgainst
theorem gv_X7_159 : GoodIn BIG (wsV RX7 159 RX7 yX7_summed (Cond.code yX7_summed cX7_summed 13 ((some .long)) :: BIG)) := good_V wm_X7_159 wi_X7_summed wse_X7_summed win_X7 wc_X7_summed
theorem gv_X7_174 : GoodIn BIG (wsV RX7 174 RX7 yX7_areThree (Cond.code yX7_areThree cX7_areThree 4 ((some .boolean)) :: BIG)) := good_V wm_X7_174 wi_X7_areThree wse_X7_areThree win_X7 wc_X7_areThree
theorem gv_X7_167 : GoodIn BIG (wsV RX7 167 RX7 yX7_pair (Cond.code yX7_pair cX7_pair 5 ((some .long)) :: BIG)) := good_V wm_X7_167 wi_X7_pair wse_X7_pair win_X7 wc_X7_pair
theorem gv_X7_177 : GoodIn BIG (wsV RX7 177 RX7 yX7_areFour (Cond.code yX7_areFour cX7_areFour 9 ((some .boolean)) :: BIG)) := good_V wm_X7_177 wi_X7_areFour wse_X7_areFour win_X7 wc_X7_areFour
theorem gv_L_71 : GoodIn BIG (wsV RL 71 RX6 yX6_fits (Cond.code yX6_fits cX6_fits 12 ((some .int)) :: BIG)) := good_V wm_L_71 wi_X6_fits wse_X6_fits win_X6 wc_X6_fits
theorem gv_L_74 : GoodIn BIG (wsV RL 74 RX7 yX7_fits (Cond.code yX7_fits cX7_fits 5 ((some .int)) :: BIG)) := good_V wm_L_74 wi_X7_fits wse_X7_fits win_X7 wc_X7_fits
theorem gv_L_75 : GoodIn BIG (wsV RL 75 RX6 yX6_factor (Cond.code yX6_factor cX6_factor 2 ((some .long)) :: BIG)) := good_V wm_L_75 wi_X6_factor wse_X6_factor win_X6 wc_X6_factor
theorem gv_X6_202 : GoodIn BIG (wsV RX6 202 RX5 yX5_leastFactor (Cond.code yX5_leastFactor cX5_leastFactor 7 ((some .boolean)) :: BIG)) := good_V wm_X6_202 wi_X5_leastFactor wse_X5_leastFactor win_X5 wc_X5_leastFactor
theorem gv_X5_75 : GoodIn BIG (wsV RX5 75 RX5 yX5_straightFactor (Cond.code yX5_straightFactor cX5_straightFactor 5 ((some .boolean)) :: BIG)) := good_V wm_X5_75 wi_X5_straightFactor wse_X5_straightFactor win_X5 wc_X5_straightFactor
theorem gv_L_79 : GoodIn BIG (wsV RL 79 RX7 yX7_factor (Cond.code yX7_factor cX7_factor 2 ((some .long)) :: BIG)) := good_V wm_L_79 wi_X7_factor wse_X7_factor win_X7 wc_X7_factor
theorem gv_X7_201 : GoodIn BIG (wsV RX7 201 RX7 yX7_findFactor (Cond.code yX7_findFactor cX7_findFactor 7 ((some .boolean)) :: BIG)) := good_V wm_X7_201 wi_X7_findFactor wse_X7_findFactor win_X7 wc_X7_findFactor
theorem gv_X7_197 : GoodIn BIG (wsV RX7 197 RX7 yX7_meetFour (Cond.code yX7_meetFour cX7_meetFour 5 ((some .boolean)) :: BIG)) := good_V wm_X7_197 wi_X7_meetFour wse_X7_meetFour win_X7 wc_X7_meetFour
theorem gv_X7_187 : GoodIn BIG (wsV RX7 187 RX7 yX7_four (Cond.code yX7_four cX7_four 9 ((some .long)) :: BIG)) := good_V wm_X7_187 wi_X7_four wse_X7_four win_X7 wc_X7_four
theorem gv_L_80 : GoodIn BIG (wsV RL 80 RX6 yX6_harms (Cond.code yX6_harms cX6_harms 4 ((some .int)) :: BIG)) := good_V wm_L_80 wi_X6_harms wse_X6_harms win_X6 wc_X6_harms
theorem gv_X6_211 : GoodIn BIG (wsV RX6 211 RX2 yX2_isAbove (Cond.code yX2_isAbove cX2_isAbove 2 ((some .boolean)) :: BIG)) := good_V wm_X6_211 wi_X2_isAbove wse_X2_isAbove win_X2 wc_X2_isAbove
theorem gv_L_83 : GoodIn BIG (wsV RL 83 RX7 yX7_harms (Cond.code yX7_harms cX7_harms 9 ((some .int)) :: BIG)) := good_V wm_L_83 wi_X7_harms wse_X7_harms win_X7 wc_X7_harms
theorem gv_L_84 : GoodIn BIG (wsV RL 84 RX6 yX6_falls (Cond.code yX6_falls cX6_falls 5 ((some .int)) :: BIG)) := good_V wm_L_84 wi_X6_falls wse_X6_falls win_X6 wc_X6_falls
theorem gv_L_87 : GoodIn BIG (wsV RL 87 RX7 yX7_falls (Cond.code yX7_falls cX7_falls 5 ((some .int)) :: BIG)) := good_V wm_L_87 wi_X7_falls wse_X7_falls win_X7 wc_X7_falls
theorem gv_L_88 : GoodIn BIG (wsV RL 88 RX6 yX6_spread (Cond.code yX6_spread cX6_spread 3 ((some .int)) :: BIG)) := good_V wm_L_88 wi_X6_spread wse_X6_spread win_X6 wc_X6_spread
theorem gv_L_91 : GoodIn BIG (wsV RL 91 RX7 yX7_spread (Cond.code yX7_spread cX7_spread 2 ((some .int)) :: BIG)) := good_V wm_L_91 wi_X7_spread wse_X7_spread win_X7 wc_X7_spread
theorem yd_X0_init : yX0_init.cls = RX0 ∧ yX0_init.cls ≠ "java/lang/invoke/MethodHandle" ∧ yX0_init.cls ≠ "java/lang/invoke/VarHandle" ∧ (parseMethodDescriptor yX0_init.desc).map (fun d => d.parameters.length) = some 0 := by decide +kernel
theorem yd_X0_renew : yX0_renew.cls = RX0 ∧ yX0_renew.cls ≠ "java/lang/invoke/MethodHandle" ∧ yX0_renew.cls ≠ "java/lang/invoke/VarHandle" ∧ (parseMethodDescriptor yX0_renew.desc).map (fun d => d.parameters.length) = some 1 := by decide +kernel
theorem yd_X0_span : yX0_span.cls = RX0 ∧ yX0_span.cls ≠ "java/lang/invoke/MethodHandle" ∧ yX0_span.cls ≠ "java/lang/invoke/VarHandle" ∧ (parseMethodDescriptor yX0_span.desc).map (fun d => d.parameters.length) = some 0 := by decide +kernel
theorem yd_X0_hasJoint : yX0_hasJoint.cls = RX0 ∧ yX0_hasJoint.cls ≠ "java/lang/invoke/MethodHandle" ∧ yX0_hasJoint.cls ≠ "java/lang/invoke/VarHandle" ∧ (parseMethodDescriptor yX0_hasJoint.desc).map (fun d => d.parameters.length) = some 1 := by decide +kernel
theorem yd_X0_hasInnerJoint : yX0_hasInnerJoint.cls = RX0 ∧ yX0_hasInnerJoint.cls ≠ "java/lang/invoke/MethodHandle" ∧ yX0_hasInnerJoint.cls ≠ "java/lang/invoke/VarHandle" ∧ (parseMethodDescriptor yX0_hasInnerJoint.desc).map (fun d => d.parameters.length) = some 1 := by decide +kernel
theorem yd_X0_mayTake : yX0_mayTake.cls = RX0 ∧ yX0_mayTake.cls ≠ "java/lang/invoke/MethodHandle" ∧ yX0_mayTake.cls ≠ "java/lang/invoke/VarHandle" ∧ (parseMethodDescriptor yX0_mayTake.desc).map (fun d => d.parameters.length) = some 2 := by decide +kernel
theorem yd_X0_take : yX0_take.cls = RX0 ∧ yX0_take.cls ≠ "java/lang/invoke/MethodHandle" ∧ yX0_take.cls ≠ "java/lang/invoke/VarHandle" ∧ (parseMethodDescriptor yX0_take.desc).map (fun d => d.parameters.length) = some 2 := by decide +kernel
theorem yd_X0_weigh : yX0_weigh.cls = RX0 ∧ yX0_weigh.cls ≠ "java/lang/invoke/MethodHandle" ∧ yX0_weigh.cls ≠ "java/lang/invoke/VarHandle" ∧ (parseMethodDescriptor yX0_weigh.desc).map (fun d => d.parameters.length) = some 1 := by decide +kernel
theorem yd_X0_rise : yX0_rise.cls = RX0 ∧ yX0_rise.cls ≠ "java/lang/invoke/MethodHandle" ∧ yX0_rise.cls ≠ "java/lang/invoke/VarHandle" ∧ (parseMethodDescriptor yX0_rise.desc).map (fun d => d.parameters.length) = some 5 := by decide +kernel
theorem yd_X0_bend : yX0_bend.cls = RX0 ∧ yX0_bend.cls ≠ "java/lang/invoke/MethodHandle" ∧ yX0_bend.cls ≠ "java/lang/invoke/VarHandle" ∧ (parseMethodDescriptor yX0_bend.desc).map (fun d => d.parameters.length) = some 3 := by decide +kernel
theorem yd_X1_init : yX1_init.cls = RX1 ∧ yX1_init.cls ≠ "java/lang/invoke/MethodHandle" ∧ yX1_init.cls ≠ "java/lang/invoke/VarHandle" ∧ (parseMethodDescriptor yX1_init.desc).map (fun d => d.parameters.length) = some 1 := by decide +kernel
theorem yd_X1_find : yX1_find.cls = RX1 ∧ yX1_find.cls ≠ "java/lang/invoke/MethodHandle" ∧ yX1_find.cls ≠ "java/lang/invoke/VarHandle" ∧ (parseMethodDescriptor yX1_find.desc).map (fun d => d.parameters.length) = some 0 := by decide +kernel
theorem yd_X1_findFirst : yX1_findFirst.cls = RX1 ∧ yX1_findFirst.cls ≠ "java/lang/invoke/MethodHandle" ∧ yX1_findFirst.cls ≠ "java/lang/invoke/VarHandle" ∧ (parseMethodDescriptor yX1_findFirst.desc).map (fun d => d.parameters.length) = some 1 := by decide +kernel
theorem yd_X1_barsThree : yX1_barsThree.cls = RX1 ∧ yX1_barsThree.cls ≠ "java/lang/invoke/MethodHandle" ∧ yX1_barsThree.cls ≠ "java/lang/invoke/VarHandle" ∧ (parseMethodDescriptor yX1_barsThree.desc).map (fun d => d.parameters.length) = some 4 := by decide +kernel
theorem yd_X1_barsFour : yX1_barsFour.cls = RX1 ∧ yX1_barsFour.cls ≠ "java/lang/invoke/MethodHandle" ∧ yX1_barsFour.cls ≠ "java/lang/invoke/VarHandle" ∧ (parseMethodDescriptor yX1_barsFour.desc).map (fun d => d.parameters.length) = some 4 := by decide +kernel
theorem yd_X1_keep : yX1_keep.cls = RX1 ∧ yX1_keep.cls ≠ "java/lang/invoke/MethodHandle" ∧ yX1_keep.cls ≠ "java/lang/invoke/VarHandle" ∧ (parseMethodDescriptor yX1_keep.desc).map (fun d => d.parameters.length) = some 4 := by decide +kernel
theorem yd_X1_isBeyondChord : yX1_isBeyondChord.cls = RX1 ∧ yX1_isBeyondChord.cls ≠ "java/lang/invoke/MethodHandle" ∧ yX1_isBeyondChord.cls ≠ "java/lang/invoke/VarHandle" ∧ (parseMethodDescriptor yX1_isBeyondChord.desc).map (fun d => d.parameters.length) = some 4 := by decide +kernel
theorem yd_X1_isCrossed : yX1_isCrossed.cls = RX1 ∧ yX1_isCrossed.cls ≠ "java/lang/invoke/MethodHandle" ∧ yX1_isCrossed.cls ≠ "java/lang/invoke/VarHandle" ∧ (parseMethodDescriptor yX1_isCrossed.desc).map (fun d => d.parameters.length) = some 5 := by decide +kernel
theorem yd_X2_init : yX2_init.cls = RX2 ∧ yX2_init.cls ≠ "java/lang/invoke/MethodHandle" ∧ yX2_init.cls ≠ "java/lang/invoke/VarHandle" ∧ (parseMethodDescriptor yX2_init.desc).map (fun d => d.parameters.length) = some 0 := by decide +kernel
theorem yd_X2_become : yX2_become.cls = RX2 ∧ yX2_become.cls ≠ "java/lang/invoke/MethodHandle" ∧ yX2_become.cls ≠ "java/lang/invoke/VarHandle" ∧ (parseMethodDescriptor yX2_become.desc).map (fun d => d.parameters.length) = some 2 := by decide +kernel
theorem yd_X2_isAbove : yX2_isAbove.cls = RX2 ∧ yX2_isAbove.cls ≠ "java/lang/invoke/MethodHandle" ∧ yX2_isAbove.cls ≠ "java/lang/invoke/VarHandle" ∧ (parseMethodDescriptor yX2_isAbove.desc).map (fun d => d.parameters.length) = some 1 := by decide +kernel
theorem yd_X2_part : yX2_part.cls = RX2 ∧ yX2_part.cls ≠ "java/lang/invoke/MethodHandle" ∧ yX2_part.cls ≠ "java/lang/invoke/VarHandle" ∧ (parseMethodDescriptor yX2_part.desc).map (fun d => d.parameters.length) = some 1 := by decide +kernel
theorem yd_X2_commonDivisor : yX2_commonDivisor.cls = RX2 ∧ yX2_commonDivisor.cls ≠ "java/lang/invoke/MethodHandle" ∧ yX2_commonDivisor.cls ≠ "java/lang/invoke/VarHandle" ∧ (parseMethodDescriptor yX2_commonDivisor.desc).map (fun d => d.parameters.length) = some 2 := by decide +kernel
theorem yd_X3_init : yX3_init.cls = RX3 ∧ yX3_init.cls ≠ "java/lang/invoke/MethodHandle" ∧ yX3_init.cls ≠ "java/lang/invoke/VarHandle" ∧ (parseMethodDescriptor yX3_init.desc).map (fun d => d.parameters.length) = some 1 := by decide +kernel
theorem yd_X3_lay : yX3_lay.cls = RX3 ∧ yX3_lay.cls ≠ "java/lang/invoke/MethodHandle" ∧ yX3_lay.cls ≠ "java/lang/invoke/VarHandle" ∧ (parseMethodDescriptor yX3_lay.desc).map (fun d => d.parameters.length) = some 1 := by decide +kernel
theorem yd_X3_findLeastStart : yX3_findLeastStart.cls = RX3 ∧ yX3_findLeastStart.cls ≠ "java/lang/invoke/MethodHandle" ∧ yX3_findLeastStart.cls ≠ "java/lang/invoke/VarHandle" ∧ (parseMethodDescriptor yX3_findLeastStart.desc).map (fun d => d.parameters.length) = some 0 := by decide +kernel
theorem yd_X3_findLeastSlope : yX3_findLeastSlope.cls = RX3 ∧ yX3_findLeastSlope.cls ≠ "java/lang/invoke/MethodHandle" ∧ yX3_findLeastSlope.cls ≠ "java/lang/invoke/VarHandle" ∧ (parseMethodDescriptor yX3_findLeastSlope.desc).map (fun d => d.parameters.length) = some 0 := by decide +kernel
theorem yd_X3_heightInto : yX3_heightInto.cls = RX3 ∧ yX3_heightInto.cls ≠ "java/lang/invoke/MethodHandle" ∧ yX3_heightInto.cls ≠ "java/lang/invoke/VarHandle" ∧ (parseMethodDescriptor yX3_heightInto.desc).map (fun d => d.parameters.length) = some 2 := by decide +kernel
theorem yd_X3_straightLow : yX3_straightLow.cls = RX3 ∧ yX3_straightLow.cls ≠ "java/lang/invoke/MethodHandle" ∧ yX3_straightLow.cls ≠ "java/lang/invoke/VarHandle" ∧ (parseMethodDescriptor yX3_straightLow.desc).map (fun d => d.parameters.length) = some 1 := by decide +kernel
theorem yd_X3_straightHigh : yX3_straightHigh.cls = RX3 ∧ yX3_straightHigh.cls ≠ "java/lang/invoke/MethodHandle" ∧ yX3_straightHigh.cls ≠ "java/lang/invoke/VarHandle" ∧ (parseMethodDescriptor yX3_straightHigh.desc).map (fun d => d.parameters.length) = some 1 := by decide +kernel
theorem yd_X4_init : yX4_init.cls = RX4 ∧ yX4_init.cls ≠ "java/lang/invoke/MethodHandle" ∧ yX4_init.cls ≠ "java/lang/invoke/VarHandle" ∧ (parseMethodDescriptor yX4_init.desc).map (fun d => d.parameters.length) = some 0 := by decide +kernel
theorem yd_X4_hold : yX4_hold.cls = RX4 ∧ yX4_hold.cls ≠ "java/lang/invoke/MethodHandle" ∧ yX4_hold.cls ≠ "java/lang/invoke/VarHandle" ∧ (parseMethodDescriptor yX4_hold.desc).map (fun d => d.parameters.length) = some 2 := by decide +kernel
theorem yd_X5_init : yX5_init.cls = RX5 ∧ yX5_init.cls ≠ "java/lang/invoke/MethodHandle" ∧ yX5_init.cls ≠ "java/lang/invoke/VarHandle" ∧ (parseMethodDescriptor yX5_init.desc).map (fun d => d.parameters.length) = some 1 := by decide +kernel
theorem yd_X5_gather : yX5_gather.cls = RX5 ∧ yX5_gather.cls ≠ "java/lang/invoke/MethodHandle" ∧ yX5_gather.cls ≠ "java/lang/invoke/VarHandle" ∧ (parseMethodDescriptor yX5_gather.desc).map (fun d => d.parameters.length) = some 1 := by decide +kernel
theorem yd_X5_hold : yX5_hold.cls = RX5 ∧ yX5_hold.cls ≠ "java/lang/invoke/MethodHandle" ∧ yX5_hold.cls ≠ "java/lang/invoke/VarHandle" ∧ (parseMethodDescriptor yX5_hold.desc).map (fun d => d.parameters.length) = some 0 := by decide +kernel
theorem yd_X5_greatestPush : yX5_greatestPush.cls = RX5 ∧ yX5_greatestPush.cls ≠ "java/lang/invoke/MethodHandle" ∧ yX5_greatestPush.cls ≠ "java/lang/invoke/VarHandle" ∧ (parseMethodDescriptor yX5_greatestPush.desc).map (fun d => d.parameters.length) = some 1 := by decide +kernel
theorem yd_X5_leastPush : yX5_leastPush.cls = RX5 ∧ yX5_leastPush.cls ≠ "java/lang/invoke/MethodHandle" ∧ yX5_leastPush.cls ≠ "java/lang/invoke/VarHandle" ∧ (parseMethodDescriptor yX5_leastPush.desc).map (fun d => d.parameters.length) = some 1 := by decide +kernel
theorem yd_X5_leastFactor : yX5_leastFactor.cls = RX5 ∧ yX5_leastFactor.cls ≠ "java/lang/invoke/MethodHandle" ∧ yX5_leastFactor.cls ≠ "java/lang/invoke/VarHandle" ∧ (parseMethodDescriptor yX5_leastFactor.desc).map (fun d => d.parameters.length) = some 1 := by decide +kernel
theorem yd_X5_straightFactor : yX5_straightFactor.cls = RX5 ∧ yX5_straightFactor.cls ≠ "java/lang/invoke/MethodHandle" ∧ yX5_straightFactor.cls ≠ "java/lang/invoke/VarHandle" ∧ (parseMethodDescriptor yX5_straightFactor.desc).map (fun d => d.parameters.length) = some 1 := by decide +kernel
theorem yd_X5_least : yX5_least.cls = RX5 ∧ yX5_least.cls ≠ "java/lang/invoke/MethodHandle" ∧ yX5_least.cls ≠ "java/lang/invoke/VarHandle" ∧ (parseMethodDescriptor yX5_least.desc).map (fun d => d.parameters.length) = some 3 := by decide +kernel
theorem yd_X5_most : yX5_most.cls = RX5 ∧ yX5_most.cls ≠ "java/lang/invoke/MethodHandle" ∧ yX5_most.cls ≠ "java/lang/invoke/VarHandle" ∧ (parseMethodDescriptor yX5_most.desc).map (fun d => d.parameters.length) = some 3 := by decide +kernel
theorem yd_X5_tightestLeast : yX5_tightestLeast.cls = RX5 ∧ yX5_tightestLeast.cls ≠ "java/lang/invoke/MethodHandle" ∧ yX5_tightestLeast.cls ≠ "java/lang/invoke/VarHandle" ∧ (parseMethodDescriptor yX5_tightestLeast.desc).map (fun d => d.parameters.length) = some 2 := by decide +kernel
theorem yd_X5_tightestMost : yX5_tightestMost.cls = RX5 ∧ yX5_tightestMost.cls ≠ "java/lang/invoke/MethodHandle" ∧ yX5_tightestMost.cls ≠ "java/lang/invoke/VarHandle" ∧ (parseMethodDescriptor yX5_tightestMost.desc).map (fun d => d.parameters.length) = some 2 := by decide +kernel
theorem yd_X5_bars : yX5_bars.cls = RX5 ∧ yX5_bars.cls ≠ "java/lang/invoke/MethodHandle" ∧ yX5_bars.cls ≠ "java/lang/invoke/VarHandle" ∧ (parseMethodDescriptor yX5_bars.desc).map (fun d => d.parameters.length) = some 4 := by decide +kernel
theorem yd_X6_init : yX6_init.cls = RX6 ∧ yX6_init.cls ≠ "java/lang/invoke/MethodHandle" ∧ yX6_init.cls ≠ "java/lang/invoke/VarHandle" ∧ (parseMethodDescriptor yX6_init.desc).map (fun d => d.parameters.length) = some 0 := by decide +kernel
theorem yd_X6_joints : yX6_joints.cls = RX6 ∧ yX6_joints.cls ≠ "java/lang/invoke/MethodHandle" ∧ yX6_joints.cls ≠ "java/lang/invoke/VarHandle" ∧ (parseMethodDescriptor yX6_joints.desc).map (fun d => d.parameters.length) = some 1 := by decide +kernel
theorem yd_X6_at : yX6_at.cls = RX6 ∧ yX6_at.cls ≠ "java/lang/invoke/MethodHandle" ∧ yX6_at.cls ≠ "java/lang/invoke/VarHandle" ∧ (parseMethodDescriptor yX6_at.desc).map (fun d => d.parameters.length) = some 2 := by decide +kernel
theorem yd_X6_edges : yX6_edges.cls = RX6 ∧ yX6_edges.cls ≠ "java/lang/invoke/MethodHandle" ∧ yX6_edges.cls ≠ "java/lang/invoke/VarHandle" ∧ (parseMethodDescriptor yX6_edges.desc).map (fun d => d.parameters.length) = some 3 := by decide +kernel
theorem yd_X6_load : yX6_load.cls = RX6 ∧ yX6_load.cls ≠ "java/lang/invoke/MethodHandle" ∧ yX6_load.cls ≠ "java/lang/invoke/VarHandle" ∧ (parseMethodDescriptor yX6_load.desc).map (fun d => d.parameters.length) = some 2 := by decide +kernel
theorem yd_X6_sheet : yX6_sheet.cls = RX6 ∧ yX6_sheet.cls ≠ "java/lang/invoke/MethodHandle" ∧ yX6_sheet.cls ≠ "java/lang/invoke/VarHandle" ∧ (parseMethodDescriptor yX6_sheet.desc).map (fun d => d.parameters.length) = some 3 := by decide +kernel
theorem yd_X6_drop : yX6_drop.cls = RX6 ∧ yX6_drop.cls ≠ "java/lang/invoke/MethodHandle" ∧ yX6_drop.cls ≠ "java/lang/invoke/VarHandle" ∧ (parseMethodDescriptor yX6_drop.desc).map (fun d => d.parameters.length) = some 1 := by decide +kernel
theorem yd_X6_item : yX6_item.cls = RX6 ∧ yX6_item.cls ≠ "java/lang/invoke/MethodHandle" ∧ yX6_item.cls ≠ "java/lang/invoke/VarHandle" ∧ (parseMethodDescriptor yX6_item.desc).map (fun d => d.parameters.length) = some 4 := by decide +kernel
theorem yd_X6_read : yX6_read.cls = RX6 ∧ yX6_read.cls ≠ "java/lang/invoke/MethodHandle" ∧ yX6_read.cls ≠ "java/lang/invoke/VarHandle" ∧ (parseMethodDescriptor yX6_read.desc).map (fun d => d.parameters.length) = some 3 := by decide +kernel
theorem yd_X6_told : yX6_told.cls = RX6 ∧ yX6_told.cls ≠ "java/lang/invoke/MethodHandle" ∧ yX6_told.cls ≠ "java/lang/invoke/VarHandle" ∧ (parseMethodDescriptor yX6_told.desc).map (fun d => d.parameters.length) = some 2 := by decide +kernel
theorem yd_X6_stands : yX6_stands.cls = RX6 ∧ yX6_stands.cls ≠ "java/lang/invoke/MethodHandle" ∧ yX6_stands.cls ≠ "java/lang/invoke/VarHandle" ∧ (parseMethodDescriptor yX6_stands.desc).map (fun d => d.parameters.length) = some 0 := by decide +kernel
theorem yd_X6_thrust : yX6_thrust.cls = RX6 ∧ yX6_thrust.cls ≠ "java/lang/invoke/MethodHandle" ∧ yX6_thrust.cls ≠ "java/lang/invoke/VarHandle" ∧ (parseMethodDescriptor yX6_thrust.desc).map (fun d => d.parameters.length) = some 2 := by decide +kernel
theorem yd_X6_height : yX6_height.cls = RX6 ∧ yX6_height.cls ≠ "java/lang/invoke/MethodHandle" ∧ yX6_height.cls ≠ "java/lang/invoke/VarHandle" ∧ (parseMethodDescriptor yX6_height.desc).map (fun d => d.parameters.length) = some 2 := by decide +kernel
theorem yd_X6_bar : yX6_bar.cls = RX6 ∧ yX6_bar.cls ≠ "java/lang/invoke/MethodHandle" ∧ yX6_bar.cls ≠ "java/lang/invoke/VarHandle" ∧ (parseMethodDescriptor yX6_bar.desc).map (fun d => d.parameters.length) = some 1 := by decide +kernel
theorem yd_X6_fits : yX6_fits.cls = RX6 ∧ yX6_fits.cls ≠ "java/lang/invoke/MethodHandle" ∧ yX6_fits.cls ≠ "java/lang/invoke/VarHandle" ∧ (parseMethodDescriptor yX6_fits.desc).map (fun d => d.parameters.length) = some 4 := by decide +kernel
theorem yd_X6_factor : yX6_factor.cls = RX6 ∧ yX6_factor.cls ≠ "java/lang/invoke/MethodHandle" ∧ yX6_factor.cls ≠ "java/lang/invoke/VarHandle" ∧ (parseMethodDescriptor yX6_factor.desc).map (fun d => d.parameters.length) = some 1 := by decide +kernel
theorem yd_X6_harms : yX6_harms.cls = RX6 ∧ yX6_harms.cls ≠ "java/lang/invoke/MethodHandle" ∧ yX6_harms.cls ≠ "java/lang/invoke/VarHandle" ∧ (parseMethodDescriptor yX6_harms.desc).map (fun d => d.parameters.length) = some 1 := by decide +kernel
theorem yd_X6_falls : yX6_falls.cls = RX6 ∧ yX6_falls.cls ≠ "java/lang/invoke/MethodHandle" ∧ yX6_falls.cls ≠ "java/lang/invoke/VarHandle" ∧ (parseMethodDescriptor yX6_falls.desc).map (fun d => d.parameters.length) = some 0 := by decide +kernel
theorem yd_X6_spread : yX6_spread.cls = RX6 ∧ yX6_spread.cls ≠ "java/lang/invoke/MethodHandle" ∧ yX6_spread.cls ≠ "java/lang/invoke/VarHandle" ∧ (parseMethodDescriptor yX6_spread.desc).map (fun d => d.parameters.length) = some 1 := by decide +kernel
theorem yd_X6_holdsUnder : yX6_holdsUnder.cls = RX6 ∧ yX6_holdsUnder.cls ≠ "java/lang/invoke/MethodHandle" ∧ yX6_holdsUnder.cls ≠ "java/lang/invoke/VarHandle" ∧ (parseMethodDescriptor yX6_holdsUnder.desc).map (fun d => d.parameters.length) = some 1 := by decide +kernel
theorem yd_X6_refusalOfRow : yX6_refusalOfRow.cls = RX6 ∧ yX6_refusalOfRow.cls ≠ "java/lang/invoke/MethodHandle" ∧ yX6_refusalOfRow.cls ≠ "java/lang/invoke/VarHandle" ∧ (parseMethodDescriptor yX6_refusalOfRow.desc).map (fun d => d.parameters.length) = some 2 := by decide +kernel
theorem yd_X6_isSheet : yX6_isSheet.cls = RX6 ∧ yX6_isSheet.cls ≠ "java/lang/invoke/MethodHandle" ∧ yX6_isSheet.cls ≠ "java/lang/invoke/VarHandle" ∧ (parseMethodDescriptor yX6_isSheet.desc).map (fun d => d.parameters.length) = some 1 := by decide +kernel
theorem yd_X6_isLane : yX6_isLane.cls = RX6 ∧ yX6_isLane.cls ≠ "java/lang/invoke/MethodHandle" ∧ yX6_isLane.cls ≠ "java/lang/invoke/VarHandle" ∧ (parseMethodDescriptor yX6_isLane.desc).map (fun d => d.parameters.length) = some 1 := by decide +kernel
theorem yd_X6_isChoice : yX6_isChoice.cls = RX6 ∧ yX6_isChoice.cls ≠ "java/lang/invoke/MethodHandle" ∧ yX6_isChoice.cls ≠ "java/lang/invoke/VarHandle" ∧ (parseMethodDescriptor yX6_isChoice.desc).map (fun d => d.parameters.length) = some 1 := by decide +kernel
theorem yd_X6_isHeight : yX6_isHeight.cls = RX6 ∧ yX6_isHeight.cls ≠ "java/lang/invoke/MethodHandle" ∧ yX6_isHeight.cls ≠ "java/lang/invoke/VarHandle" ∧ (parseMethodDescriptor yX6_isHeight.desc).map (fun d => d.parameters.length) = some 1 := by decide +kernel
theorem yd_X6_areEdges : yX6_areEdges.cls = RX6 ∧ yX6_areEdges.cls ≠ "java/lang/invoke/MethodHandle" ∧ yX6_areEdges.cls ≠ "java/lang/invoke/VarHandle" ∧ (parseMethodDescriptor yX6_areEdges.desc).map (fun d => d.parameters.length) = some 2 := by decide +kernel
theorem yd_X6_isLoad : yX6_isLoad.cls = RX6 ∧ yX6_isLoad.cls ≠ "java/lang/invoke/MethodHandle" ∧ yX6_isLoad.cls ≠ "java/lang/invoke/VarHandle" ∧ (parseMethodDescriptor yX6_isLoad.desc).map (fun d => d.parameters.length) = some 1 := by decide +kernel
theorem yd_X7_in : yX7_in.cls = RX7 ∧ yX7_in.cls ≠ "java/lang/invoke/MethodHandle" ∧ yX7_in.cls ≠ "java/lang/invoke/VarHandle" ∧ (parseMethodDescriptor yX7_in.desc).map (fun d => d.parameters.length) = some 3 := by decide +kernel
theorem yd_X7_common : yX7_common.cls = RX7 ∧ yX7_common.cls ≠ "java/lang/invoke/MethodHandle" ∧ yX7_common.cls ≠ "java/lang/invoke/VarHandle" ∧ (parseMethodDescriptor yX7_common.desc).map (fun d => d.parameters.length) = some 2 := by decide +kernel
theorem yd_X7_init : yX7_init.cls = RX7 ∧ yX7_init.cls ≠ "java/lang/invoke/MethodHandle" ∧ yX7_init.cls ≠ "java/lang/invoke/VarHandle" ∧ (parseMethodDescriptor yX7_init.desc).map (fun d => d.parameters.length) = some 0 := by decide +kernel
theorem yd_X7_begin : yX7_begin.cls = RX7 ∧ yX7_begin.cls ≠ "java/lang/invoke/MethodHandle" ∧ yX7_begin.cls ≠ "java/lang/invoke/VarHandle" ∧ (parseMethodDescriptor yX7_begin.desc).map (fun d => d.parameters.length) = some 1 := by decide +kernel
theorem yd_X7_joints : yX7_joints.cls = RX7 ∧ yX7_joints.cls ≠ "java/lang/invoke/MethodHandle" ∧ yX7_joints.cls ≠ "java/lang/invoke/VarHandle" ∧ (parseMethodDescriptor yX7_joints.desc).map (fun d => d.parameters.length) = some 1 := by decide +kernel
theorem yd_X7_at : yX7_at.cls = RX7 ∧ yX7_at.cls ≠ "java/lang/invoke/MethodHandle" ∧ yX7_at.cls ≠ "java/lang/invoke/VarHandle" ∧ (parseMethodDescriptor yX7_at.desc).map (fun d => d.parameters.length) = some 2 := by decide +kernel
theorem yd_X7_edges : yX7_edges.cls = RX7 ∧ yX7_edges.cls ≠ "java/lang/invoke/MethodHandle" ∧ yX7_edges.cls ≠ "java/lang/invoke/VarHandle" ∧ (parseMethodDescriptor yX7_edges.desc).map (fun d => d.parameters.length) = some 3 := by decide +kernel
theorem yd_X7_load : yX7_load.cls = RX7 ∧ yX7_load.cls ≠ "java/lang/invoke/MethodHandle" ∧ yX7_load.cls ≠ "java/lang/invoke/VarHandle" ∧ (parseMethodDescriptor yX7_load.desc).map (fun d => d.parameters.length) = some 2 := by decide +kernel
theorem yd_X7_isSheet : yX7_isSheet.cls = RX7 ∧ yX7_isSheet.cls ≠ "java/lang/invoke/MethodHandle" ∧ yX7_isSheet.cls ≠ "java/lang/invoke/VarHandle" ∧ (parseMethodDescriptor yX7_isSheet.desc).map (fun d => d.parameters.length) = some 2 := by decide +kernel
theorem yd_X7_sheet : yX7_sheet.cls = RX7 ∧ yX7_sheet.cls ≠ "java/lang/invoke/MethodHandle" ∧ yX7_sheet.cls ≠ "java/lang/invoke/VarHandle" ∧ (parseMethodDescriptor yX7_sheet.desc).map (fun d => d.parameters.length) = some 3 := by decide +kernel
theorem yd_X7_drop : yX7_drop.cls = RX7 ∧ yX7_drop.cls ≠ "java/lang/invoke/MethodHandle" ∧ yX7_drop.cls ≠ "java/lang/invoke/VarHandle" ∧ (parseMethodDescriptor yX7_drop.desc).map (fun d => d.parameters.length) = some 1 := by decide +kernel
theorem yd_X7_item : yX7_item.cls = RX7 ∧ yX7_item.cls ≠ "java/lang/invoke/MethodHandle" ∧ yX7_item.cls ≠ "java/lang/invoke/VarHandle" ∧ (parseMethodDescriptor yX7_item.desc).map (fun d => d.parameters.length) = some 4 := by decide +kernel
theorem yd_X7_read : yX7_read.cls = RX7 ∧ yX7_read.cls ≠ "java/lang/invoke/MethodHandle" ∧ yX7_read.cls ≠ "java/lang/invoke/VarHandle" ∧ (parseMethodDescriptor yX7_read.desc).map (fun d => d.parameters.length) = some 3 := by decide +kernel
theorem yd_X7_momentAt : yX7_momentAt.cls = RX7 ∧ yX7_momentAt.cls ≠ "java/lang/invoke/MethodHandle" ∧ yX7_momentAt.cls ≠ "java/lang/invoke/VarHandle" ∧ (parseMethodDescriptor yX7_momentAt.desc).map (fun d => d.parameters.length) = some 1 := by decide +kernel
theorem yd_X7_told : yX7_told.cls = RX7 ∧ yX7_told.cls ≠ "java/lang/invoke/MethodHandle" ∧ yX7_told.cls ≠ "java/lang/invoke/VarHandle" ∧ (parseMethodDescriptor yX7_told.desc).map (fun d => d.parameters.length) = some 2 := by decide +kernel
theorem yd_X7_setRow : yX7_setRow.cls = RX7 ∧ yX7_setRow.cls ≠ "java/lang/invoke/MethodHandle" ∧ yX7_setRow.cls ≠ "java/lang/invoke/VarHandle" ∧ (parseMethodDescriptor yX7_setRow.desc).map (fun d => d.parameters.length) = some 6 := by decide +kernel
theorem yd_X7_findRows : yX7_findRows.cls = RX7 ∧ yX7_findRows.cls ≠ "java/lang/invoke/MethodHandle" ∧ yX7_findRows.cls ≠ "java/lang/invoke/VarHandle" ∧ (parseMethodDescriptor yX7_findRows.desc).map (fun d => d.parameters.length) = some 1 := by decide +kernel
theorem yd_X7_three : yX7_three.cls = RX7 ∧ yX7_three.cls ≠ "java/lang/invoke/MethodHandle" ∧ yX7_three.cls ≠ "java/lang/invoke/VarHandle" ∧ (parseMethodDescriptor yX7_three.desc).map (fun d => d.parameters.length) = some 6 := by decide +kernel
theorem yd_X7_keepsAll : yX7_keepsAll.cls = RX7 ∧ yX7_keepsAll.cls ≠ "java/lang/invoke/MethodHandle" ∧ yX7_keepsAll.cls ≠ "java/lang/invoke/VarHandle" ∧ (parseMethodDescriptor yX7_keepsAll.desc).map (fun d => d.parameters.length) = some 0 := by decide +kernel
theorem yd_X7_turnSpot : yX7_turnSpot.cls = RX7 ∧ yX7_turnSpot.cls ≠ "java/lang/invoke/MethodHandle" ∧ yX7_turnSpot.cls ≠ "java/lang/invoke/VarHandle" ∧ (parseMethodDescriptor yX7_turnSpot.desc).map (fun d => d.parameters.length) = some 0 := by decide +kernel
theorem yd_X7_meetThree : yX7_meetThree.cls = RX7 ∧ yX7_meetThree.cls ≠ "java/lang/invoke/MethodHandle" ∧ yX7_meetThree.cls ≠ "java/lang/invoke/VarHandle" ∧ (parseMethodDescriptor yX7_meetThree.desc).map (fun d => d.parameters.length) = some 3 := by decide +kernel
theorem yd_X7_down : yX7_down.cls = RX7 ∧ yX7_down.cls ≠ "java/lang/invoke/MethodHandle" ∧ yX7_down.cls ≠ "java/lang/invoke/VarHandle" ∧ (parseMethodDescriptor yX7_down.desc).map (fun d => d.parameters.length) = some 2 := by decide +kernel
theorem yd_X7_compare : yX7_compare.cls = RX7 ∧ yX7_compare.cls ≠ "java/lang/invoke/MethodHandle" ∧ yX7_compare.cls ≠ "java/lang/invoke/VarHandle" ∧ (parseMethodDescriptor yX7_compare.desc).map (fun d => d.parameters.length) = some 4 := by decide +kernel
theorem yd_X7_findLines : yX7_findLines.cls = RX7 ∧ yX7_findLines.cls ≠ "java/lang/invoke/MethodHandle" ∧ yX7_findLines.cls ≠ "java/lang/invoke/VarHandle" ∧ (parseMethodDescriptor yX7_findLines.desc).map (fun d => d.parameters.length) = some 0 := by decide +kernel
theorem yd_X7_takeSpot : yX7_takeSpot.cls = RX7 ∧ yX7_takeSpot.cls ≠ "java/lang/invoke/MethodHandle" ∧ yX7_takeSpot.cls ≠ "java/lang/invoke/VarHandle" ∧ (parseMethodDescriptor yX7_takeSpot.desc).map (fun d => d.parameters.length) = some 0 := by decide +kernel
theorem yd_X7_isLoose : yX7_isLoose.cls = RX7 ∧ yX7_isLoose.cls ≠ "java/lang/invoke/MethodHandle" ∧ yX7_isLoose.cls ≠ "java/lang/invoke/VarHandle" ∧ (parseMethodDescriptor yX7_isLoose.desc).map (fun d => d.parameters.length) = some 0 := by decide +kernel
theorem yd_X7_stands : yX7_stands.cls = RX7 ∧ yX7_stands.cls ≠ "java/lang/invoke/MethodHandle" ∧ yX7_stands.cls ≠ "java/lang/invoke/VarHandle" ∧ (parseMethodDescriptor yX7_stands.desc).map (fun d => d.parameters.length) = some 0 := by decide +kernel
theorem yd_X7_thrust : yX7_thrust.cls = RX7 ∧ yX7_thrust.cls ≠ "java/lang/invoke/MethodHandle" ∧ yX7_thrust.cls ≠ "java/lang/invoke/VarHandle" ∧ (parseMethodDescriptor yX7_thrust.desc).map (fun d => d.parameters.length) = some 2 := by decide +kernel
theorem yd_X7_height : yX7_height.cls = RX7 ∧ yX7_height.cls ≠ "java/lang/invoke/MethodHandle" ∧ yX7_height.cls ≠ "java/lang/invoke/VarHandle" ∧ (parseMethodDescriptor yX7_height.desc).map (fun d => d.parameters.length) = some 2 := by decide +kernel
theorem yd_X7_fits : yX7_fits.cls = RX7 ∧ yX7_fits.cls ≠ "java/lang/invoke/MethodHandle" ∧ yX7_fits.cls ≠ "java/lang/invoke/VarHandle" ∧ (parseMethodDescriptor yX7_fits.desc).map (fun d => d.parameters.length) = some 4 := by decide +kernel
theorem yd_X7_pair : yX7_pair.cls = RX7 ∧ yX7_pair.cls ≠ "java/lang/invoke/MethodHandle" ∧ yX7_pair.cls ≠ "java/lang/invoke/VarHandle" ∧ (parseMethodDescriptor yX7_pair.desc).map (fun d => d.parameters.length) = some 4 := by decide +kernel
theorem yd_X7_isAgainst : yX7_isAgainst.cls = RX7 ∧ yX7_isAgainst.cls ≠ "java/lang/invoke/MethodHandle" ∧ yX7_isAgainst.cls ≠ "java/lang/invoke/VarHandle" ∧ (parseMethodDescriptor yX7_isAgainst.desc).map (fun d => d.parameters.length) = some 5 := by decide +kernel
theorem yd_X7_summed : yX7_summed.cls = RX7 ∧ yX7_summed.cls ≠ "java/lang/invoke/MethodHandle" ∧ yX7_summed.cls ≠ "java/lang/invoke/VarHandle" ∧ (parseMethodDescriptor yX7_summed.desc).map (fun d => d.parameters.length) = some 6 := by decide +kernel
theorem yd_X7_areTwo : yX7_areTwo.cls = RX7 ∧ yX7_areTwo.cls ≠ "java/lang/invoke/MethodHandle" ∧ yX7_areTwo.cls ≠ "java/lang/invoke/VarHandle" ∧ (parseMethodDescriptor yX7_areTwo.desc).map (fun d => d.parameters.length) = some 0 := by decide +kernel
theorem yd_X7_areThree : yX7_areThree.cls = RX7 ∧ yX7_areThree.cls ≠ "java/lang/invoke/MethodHandle" ∧ yX7_areThree.cls ≠ "java/lang/invoke/VarHandle" ∧ (parseMethodDescriptor yX7_areThree.desc).map (fun d => d.parameters.length) = some 0 := by decide +kernel
theorem yd_X7_areFour : yX7_areFour.cls = RX7 ∧ yX7_areFour.cls ≠ "java/lang/invoke/MethodHandle" ∧ yX7_areFour.cls ≠ "java/lang/invoke/VarHandle" ∧ (parseMethodDescriptor yX7_areFour.desc).map (fun d => d.parameters.length) = some 0 := by decide +kernel
theorem yd_X7_findBars : yX7_findBars.cls = RX7 ∧ yX7_findBars.cls ≠ "java/lang/invoke/MethodHandle" ∧ yX7_findBars.cls ≠ "java/lang/invoke/VarHandle" ∧ (parseMethodDescriptor yX7_findBars.desc).map (fun d => d.parameters.length) = some 0 := by decide +kernel
theorem yd_X7_bar : yX7_bar.cls = RX7 ∧ yX7_bar.cls ≠ "java/lang/invoke/MethodHandle" ∧ yX7_bar.cls ≠ "java/lang/invoke/VarHandle" ∧ (parseMethodDescriptor yX7_bar.desc).map (fun d => d.parameters.length) = some 1 := by decide +kernel
theorem yd_X7_four : yX7_four.cls = RX7 ∧ yX7_four.cls ≠ "java/lang/invoke/MethodHandle" ∧ yX7_four.cls ≠ "java/lang/invoke/VarHandle" ∧ (parseMethodDescriptor yX7_four.desc).map (fun d => d.parameters.length) = some 8 := by decide +kernel
theorem yd_X7_meetFour : yX7_meetFour.cls = RX7 ∧ yX7_meetFour.cls ≠ "java/lang/invoke/MethodHandle" ∧ yX7_meetFour.cls ≠ "java/lang/invoke/VarHandle" ∧ (parseMethodDescriptor yX7_meetFour.desc).map (fun d => d.parameters.length) = some 4 := by decide +kernel
theorem yd_X7_findFactor : yX7_findFactor.cls = RX7 ∧ yX7_findFactor.cls ≠ "java/lang/invoke/MethodHandle" ∧ yX7_findFactor.cls ≠ "java/lang/invoke/VarHandle" ∧ (parseMethodDescriptor yX7_findFactor.desc).map (fun d => d.parameters.length) = some 0 := by decide +kernel
theorem yd_X7_factor : yX7_factor.cls = RX7 ∧ yX7_factor.cls ≠ "java/lang/invoke/MethodHandle" ∧ yX7_factor.cls ≠ "java/lang/invoke/VarHandle" ∧ (parseMethodDescriptor yX7_factor.desc).map (fun d => d.parameters.length) = some 1 := by decide +kernel
theorem yd_X7_harms : yX7_harms.cls = RX7 ∧ yX7_harms.cls ≠ "java/lang/invoke/MethodHandle" ∧ yX7_harms.cls ≠ "java/lang/invoke/VarHandle" ∧ (parseMethodDescriptor yX7_harms.desc).map (fun d => d.parameters.length) = some 1 := by decide +kernel
theorem yd_X7_falls : yX7_falls.cls = RX7 ∧ yX7_falls.cls ≠ "java/lang/invoke/MethodHandle" ∧ yX7_falls.cls ≠ "java/lang/invoke/VarHandle" ∧ (parseMethodDescriptor yX7_falls.desc).map (fun d => d.parameters.length) = some 0 := by decide +kernel
theorem yd_X7_spread : yX7_spread.cls = RX7 ∧ yX7_spread.cls ≠ "java/lang/invoke/MethodHandle" ∧ yX7_spread.cls ≠ "java/lang/invoke/VarHandle" ∧ (parseMethodDescriptor yX7_spread.desc).map (fun d => d.parameters.length) = some 1 := by decide +kernel
theorem in_absS : Cond.static Lib.MathLoose.abs_long.x ∈ BIG := wst_abs
theorem in_absI : Cond.initialized "java/lang/Math" ∈ BIG := win_Math
theorem in_absC : Cond.code Lib.MathLoose.abs_long.x Lib.MathLoose.abs_long.code 2 (some .long) ∈ BIG := wc_abs
end
section
theorem g_iconst {g : Gx} {K : Kx} {cc : ByteArray} {own : String} {n fr lo : Nat} {ws : va_W} {pc : Nat} {lv : List (Nat × Value)} {rest : List Value} {z : Int} (C : CX g K cc own n fr lo) (hd : decode cc pc = .ok (.iconst z, 1)) (k : GJ g K ws (pc + 1) lv (.int (iZ z) :: rest)) : GJ g K ws pc lv rest := by
  obtain ⟨p, e, R, s, m, args, below, meth, c, A, Q, nL⟩ := K
  obtain ⟨hx, hb, hml, hown, hts, hK, hlk, hA, hfr, hlo, hN, hn⟩ := C
  intro H locs ls hP hD hS hl
  exact lv_iconst hx hb hd rfl (k H locs ls hP hD hS hl)

theorem g_bipush {g : Gx} {K : Kx} {cc : ByteArray} {own : String} {n fr lo : Nat} {ws : va_W} {pc : Nat} {lv : List (Nat × Value)} {rest : List Value} {z : Int} (C : CX g K cc own n fr lo) (hd : decode cc pc = .ok (.bipush z, 2)) (hz : (Int8.ofInt z).toInt32 = iZ z) (k : GJ g K ws (pc + 2) lv (.int (iZ z) :: rest)) : GJ g K ws pc lv rest := by
  obtain ⟨p, e, R, s, m, args, below, meth, c, A, Q, nL⟩ := K
  obtain ⟨hx, hb, hml, hown, hts, hK, hlk, hA, hfr, hlo, hN, hn⟩ := C
  intro H locs ls hP hD hS hl
  exact lv_bipush hx hb hd hz (k H locs ls hP hD hS hl)

theorem g_sipush {g : Gx} {K : Kx} {cc : ByteArray} {own : String} {n fr lo : Nat} {ws : va_W} {pc : Nat} {lv : List (Nat × Value)} {rest : List Value} {z : Int} (C : CX g K cc own n fr lo) (hd : decode cc pc = .ok (.sipush z, 3)) (hz : (Int16.ofInt z).toInt32 = iZ z) (k : GJ g K ws (pc + 3) lv (.int (iZ z) :: rest)) : GJ g K ws pc lv rest := by
  obtain ⟨p, e, R, s, m, args, below, meth, c, A, Q, nL⟩ := K
  obtain ⟨hx, hb, hml, hown, hts, hK, hlk, hA, hfr, hlo, hN, hn⟩ := C
  intro H locs ls hP hD hS hl
  exact lv_sipush hx hb hd hz (k H locs ls hP hD hS hl)

theorem g_lconst {g : Gx} {K : Kx} {cc : ByteArray} {own : String} {n fr lo : Nat} {ws : va_W} {pc : Nat} {lv : List (Nat × Value)} {rest : List Value} {j : Fin 2} (z : Int) (C : CX g K cc own n fr lo) (hd : decode cc pc = .ok (.lconst j, 1)) (hz : Int64.ofNat (j : Nat) = lZ z) (k : GJ g K ws (pc + 1) lv (.long (lZ z) :: rest)) : GJ g K ws pc lv rest := by
  obtain ⟨p, e, R, s, m, args, below, meth, c, A, Q, nL⟩ := K
  obtain ⟨hx, hb, hml, hown, hts, hK, hlk, hA, hfr, hlo, hN, hn⟩ := C
  intro H locs ls hP hD hS hl
  exact lv_lconst hx hb hd hz (k H locs ls hP hD hS hl)

theorem g_ldc {g : Gx} {K : Kx} {cc : ByteArray} {own : String} {n fr lo : Nat} {ws : va_W} {pc : Nat} {lv : List (Nat × Value)} {rest : List Value} {idx : Nat} {v : Int32} (z : Int) (C : CX g K cc own n fr lo) (hm : Cond.constant own idx v ∈ BIG) (hz : v = iZ z) (hd : decode cc pc = .ok (.ldc idx, 2)) (k : GJ g K ws (pc + 2) lv (.int (iZ z) :: rest)) : GJ g K ws pc lv rest := by
  obtain ⟨p, e, R, s, m, args, below, meth, c, A, Q, nL⟩ := K
  obtain ⟨hx, hb, hml, hown, hts, hK, hlk, hA, hfr, hlo, hN, hn⟩ := C
  intro H locs ls hP hD hS hl
  exact lv_ldc hx hb hown (hts _ hm) hd (hz ▸ k H locs ls hP hD hS hl)

theorem g_ldc2 {g : Gx} {K : Kx} {cc : ByteArray} {own : String} {n fr lo : Nat} {ws : va_W} {pc : Nat} {lv : List (Nat × Value)} {rest : List Value} {idx : Nat} {v : Int64} (z : Int) (C : CX g K cc own n fr lo) (hm : Cond.constantLong own idx v ∈ BIG) (hz : v = lZ z) (hd : decode cc pc = .ok (.ldc2_w idx, 3)) (k : GJ g K ws (pc + 3) lv (.long (lZ z) :: rest)) : GJ g K ws pc lv rest := by
  obtain ⟨p, e, R, s, m, args, below, meth, c, A, Q, nL⟩ := K
  obtain ⟨hx, hb, hml, hown, hts, hK, hlk, hA, hfr, hlo, hN, hn⟩ := C
  intro H locs ls hP hD hS hl
  exact lv_ldc2 hx hb hown (hts _ hm) hd (hz ▸ k H locs ls hP hD hS hl)

theorem g_iload_n {g : Gx} {K : Kx} {cc : ByteArray} {own : String} {n fr lo : Nat} {ws : va_W} {pc : Nat} {lv : List (Nat × Value)} {rest : List Value} {j : Fin 4} {i : Nat} {x : Int32} (k : Nat) (C : CX g K cc own n fr lo) (hk : lv[k]? = some (i, .int x)) (hd : decode cc pc = .ok (.iload_n j, 1)) (hi : (j : Nat) = i) (kk : GJ g K ws (pc + 1) lv (.int x :: rest)) : GJ g K ws pc lv rest := by
  obtain ⟨p, e, R, s, m, args, below, meth, c, A, Q, nL⟩ := K
  obtain ⟨hx, hb, hml, hown, hts, hK, hlk, hA, hfr, hlo, hN, hn⟩ := C
  intro H locs ls hP hD hS hl
  exact lv_iload_n hx hb hd hi (lv_at hl k hk) (kk H locs ls hP hD hS hl)

theorem g_iload {g : Gx} {K : Kx} {cc : ByteArray} {own : String} {n fr lo : Nat} {ws : va_W} {pc : Nat} {lv : List (Nat × Value)} {rest : List Value} {i : Nat} {x : Int32} (k : Nat) (C : CX g K cc own n fr lo) (hk : lv[k]? = some (i, .int x)) (hd : decode cc pc = .ok (.iload i, 2)) (kk : GJ g K ws (pc + 2) lv (.int x :: rest)) : GJ g K ws pc lv rest := by
  obtain ⟨p, e, R, s, m, args, below, meth, c, A, Q, nL⟩ := K
  obtain ⟨hx, hb, hml, hown, hts, hK, hlk, hA, hfr, hlo, hN, hn⟩ := C
  intro H locs ls hP hD hS hl
  exact lv_iload hx hb hd (lv_at hl k hk) (kk H locs ls hP hD hS hl)

theorem g_istore_n {g : Gx} {K : Kx} {cc : ByteArray} {own : String} {n fr lo : Nat} {ws : va_W} {pc : Nat} {lv : List (Nat × Value)} {rest : List Value} {j : Fin 4} {i : Nat} {x : Int32} {lv' : List (Nat × Value)} (ks : List Nat) (C : CX g K cc own n fr lo) (hd : decode cc pc = .ok (.istore_n j, 1)) (hi : (j : Nat) = i) (hn9 : i < n) (hl9 : lv_pick ((i, Value.int x) :: lv.filter (fun q => !(q.1 == i) && !(q.1 + 1 == i && q.2.category == 2))) ks = lv') (kk : GJ g K ws (pc + 1) lv' rest) : GJ g K ws pc lv (.int x :: rest) := by
  obtain ⟨p, e, R, s, m, args, below, meth, c, A, Q, nL⟩ := K
  obtain ⟨hx, hb, hml, hown, hts, hK, hlk, hA, hfr, hlo, hN, hn⟩ := C
  intro H locs ls hP hD hS hl
  subst hn
  exact lv_istore_n hx hb hd hi hl hn9 rfl (fun ls' hl' => kk H locs ls' hP hD hS (lv_sub hl' ks hl9))

theorem g_istore {g : Gx} {K : Kx} {cc : ByteArray} {own : String} {n fr lo : Nat} {ws : va_W} {pc : Nat} {lv : List (Nat × Value)} {rest : List Value} {i : Nat} {x : Int32} {lv' : List (Nat × Value)} (ks : List Nat) (C : CX g K cc own n fr lo) (hd : decode cc pc = .ok (.istore i, 2)) (hn9 : i < n) (hl9 : lv_pick ((i, Value.int x) :: lv.filter (fun q => !(q.1 == i) && !(q.1 + 1 == i && q.2.category == 2))) ks = lv') (kk : GJ g K ws (pc + 2) lv' rest) : GJ g K ws pc lv (.int x :: rest) := by
  obtain ⟨p, e, R, s, m, args, below, meth, c, A, Q, nL⟩ := K
  obtain ⟨hx, hb, hml, hown, hts, hK, hlk, hA, hfr, hlo, hN, hn⟩ := C
  intro H locs ls hP hD hS hl
  subst hn
  exact lv_istore hx hb hd hl hn9 rfl (fun ls' hl' => kk H locs ls' hP hD hS (lv_sub hl' ks hl9))

theorem g_lload_n {g : Gx} {K : Kx} {cc : ByteArray} {own : String} {n fr lo : Nat} {ws : va_W} {pc : Nat} {lv : List (Nat × Value)} {rest : List Value} {j : Fin 4} {i : Nat} {x : Int64} (k : Nat) (C : CX g K cc own n fr lo) (hk : lv[k]? = some (i, .long x)) (hd : decode cc pc = .ok (.lload_n j, 1)) (hi : (j : Nat) = i) (kk : GJ g K ws (pc + 1) lv (.long x :: rest)) : GJ g K ws pc lv rest := by
  obtain ⟨p, e, R, s, m, args, below, meth, c, A, Q, nL⟩ := K
  obtain ⟨hx, hb, hml, hown, hts, hK, hlk, hA, hfr, hlo, hN, hn⟩ := C
  intro H locs ls hP hD hS hl
  exact lv_lload_n hx hb hd hi (lv_at hl k hk) (kk H locs ls hP hD hS hl)

theorem g_lload {g : Gx} {K : Kx} {cc : ByteArray} {own : String} {n fr lo : Nat} {ws : va_W} {pc : Nat} {lv : List (Nat × Value)} {rest : List Value} {i : Nat} {x : Int64} (k : Nat) (C : CX g K cc own n fr lo) (hk : lv[k]? = some (i, .long x)) (hd : decode cc pc = .ok (.lload i, 2)) (kk : GJ g K ws (pc + 2) lv (.long x :: rest)) : GJ g K ws pc lv rest := by
  obtain ⟨p, e, R, s, m, args, below, meth, c, A, Q, nL⟩ := K
  obtain ⟨hx, hb, hml, hown, hts, hK, hlk, hA, hfr, hlo, hN, hn⟩ := C
  intro H locs ls hP hD hS hl
  exact lv_lload hx hb hd (lv_at hl k hk) (kk H locs ls hP hD hS hl)

theorem g_lstore_n {g : Gx} {K : Kx} {cc : ByteArray} {own : String} {n fr lo : Nat} {ws : va_W} {pc : Nat} {lv : List (Nat × Value)} {rest : List Value} {j : Fin 4} {i : Nat} {x : Int64} {lv' : List (Nat × Value)} (ks : List Nat) (C : CX g K cc own n fr lo) (hd : decode cc pc = .ok (.lstore_n j, 1)) (hi : (j : Nat) = i) (hn9 : i + 1 < n) (hl9 : lv_pick ((i, Value.long x) :: lv.filter (fun q => !(q.1 == i) && (!(q.1 == i + 1) && !(q.1 + 1 == i && q.2.category == 2)))) ks = lv') (kk : GJ g K ws (pc + 1) lv' rest) : GJ g K ws pc lv (.long x :: rest) := by
  obtain ⟨p, e, R, s, m, args, below, meth, c, A, Q, nL⟩ := K
  obtain ⟨hx, hb, hml, hown, hts, hK, hlk, hA, hfr, hlo, hN, hn⟩ := C
  intro H locs ls hP hD hS hl
  subst hn
  exact lv_lstore_n hx hb hd hi hl hn9 rfl (fun ls' hl' => kk H locs ls' hP hD hS (lv_sub hl' ks hl9))

theorem g_lstore {g : Gx} {K : Kx} {cc : ByteArray} {own : String} {n fr lo : Nat} {ws : va_W} {pc : Nat} {lv : List (Nat × Value)} {rest : List Value} {i : Nat} {x : Int64} {lv' : List (Nat × Value)} (ks : List Nat) (C : CX g K cc own n fr lo) (hd : decode cc pc = .ok (.lstore i, 2)) (hn9 : i + 1 < n) (hl9 : lv_pick ((i, Value.long x) :: lv.filter (fun q => !(q.1 == i) && (!(q.1 == i + 1) && !(q.1 + 1 == i && q.2.category == 2)))) ks = lv') (kk : GJ g K ws (pc + 2) lv' rest) : GJ g K ws pc lv (.long x :: rest) := by
  obtain ⟨p, e, R, s, m, args, below, meth, c, A, Q, nL⟩ := K
  obtain ⟨hx, hb, hml, hown, hts, hK, hlk, hA, hfr, hlo, hN, hn⟩ := C
  intro H locs ls hP hD hS hl
  subst hn
  exact lv_lstore hx hb hd hl hn9 rfl (fun ls' hl' => kk H locs ls' hP hD hS (lv_sub hl' ks hl9))

theorem g_aload_n {g : Gx} {K : Kx} {cc : ByteArray} {own : String} {n fr lo : Nat} {ws : va_W} {pc : Nat} {lv : List (Nat × Value)} {rest : List Value} {j : Fin 4} {i : Nat} {x : Nat} (k : Nat) (C : CX g K cc own n fr lo) (hk : lv[k]? = some (i, .ref x)) (hd : decode cc pc = .ok (.aload_n j, 1)) (hi : (j : Nat) = i) (kk : GJ g K ws (pc + 1) lv (.ref x :: rest)) : GJ g K ws pc lv rest := by
  obtain ⟨p, e, R, s, m, args, below, meth, c, A, Q, nL⟩ := K
  obtain ⟨hx, hb, hml, hown, hts, hK, hlk, hA, hfr, hlo, hN, hn⟩ := C
  intro H locs ls hP hD hS hl
  exact lv_aload_n hx hb hd hi (lv_at hl k hk) (kk H locs ls hP hD hS hl)

theorem g_aload {g : Gx} {K : Kx} {cc : ByteArray} {own : String} {n fr lo : Nat} {ws : va_W} {pc : Nat} {lv : List (Nat × Value)} {rest : List Value} {i : Nat} {x : Nat} (k : Nat) (C : CX g K cc own n fr lo) (hk : lv[k]? = some (i, .ref x)) (hd : decode cc pc = .ok (.aload i, 2)) (kk : GJ g K ws (pc + 2) lv (.ref x :: rest)) : GJ g K ws pc lv rest := by
  obtain ⟨p, e, R, s, m, args, below, meth, c, A, Q, nL⟩ := K
  obtain ⟨hx, hb, hml, hown, hts, hK, hlk, hA, hfr, hlo, hN, hn⟩ := C
  intro H locs ls hP hD hS hl
  exact lv_aload hx hb hd (lv_at hl k hk) (kk H locs ls hP hD hS hl)

theorem g_astore_n {g : Gx} {K : Kx} {cc : ByteArray} {own : String} {n fr lo : Nat} {ws : va_W} {pc : Nat} {lv : List (Nat × Value)} {rest : List Value} {j : Fin 4} {i : Nat} {x : Nat} {lv' : List (Nat × Value)} (ks : List Nat) (C : CX g K cc own n fr lo) (hd : decode cc pc = .ok (.astore_n j, 1)) (hi : (j : Nat) = i) (hn9 : i < n) (hl9 : lv_pick ((i, Value.ref x) :: lv.filter (fun q => !(q.1 == i) && !(q.1 + 1 == i && q.2.category == 2))) ks = lv') (kk : GJ g K ws (pc + 1) lv' rest) : GJ g K ws pc lv (.ref x :: rest) := by
  obtain ⟨p, e, R, s, m, args, below, meth, c, A, Q, nL⟩ := K
  obtain ⟨hx, hb, hml, hown, hts, hK, hlk, hA, hfr, hlo, hN, hn⟩ := C
  intro H locs ls hP hD hS hl
  subst hn
  exact lv_astore_n hx hb hd hi hl hn9 rfl (fun ls' hl' => kk H locs ls' hP hD hS (lv_sub hl' ks hl9))

theorem g_astore {g : Gx} {K : Kx} {cc : ByteArray} {own : String} {n fr lo : Nat} {ws : va_W} {pc : Nat} {lv : List (Nat × Value)} {rest : List Value} {i : Nat} {x : Nat} {lv' : List (Nat × Value)} (ks : List Nat) (C : CX g K cc own n fr lo) (hd : decode cc pc = .ok (.astore i, 2)) (hn9 : i < n) (hl9 : lv_pick ((i, Value.ref x) :: lv.filter (fun q => !(q.1 == i) && !(q.1 + 1 == i && q.2.category == 2))) ks = lv') (kk : GJ g K ws (pc + 2) lv' rest) : GJ g K ws pc lv (.ref x :: rest) := by
  obtain ⟨p, e, R, s, m, args, below, meth, c, A, Q, nL⟩ := K
  obtain ⟨hx, hb, hml, hown, hts, hK, hlk, hA, hfr, hlo, hN, hn⟩ := C
  intro H locs ls hP hD hS hl
  subst hn
  exact lv_astore hx hb hd hl hn9 rfl (fun ls' hl' => kk H locs ls' hP hD hS (lv_sub hl' ks hl9))

theorem g_iinc {g : Gx} {K : Kx} {cc : ByteArray} {own : String} {n fr lo : Nat} {ws : va_W} {pc : Nat} {lv : List (Nat × Value)} {rest : List Value} {i : Nat} {z d : Int} {lv' : List (Nat × Value)} (k : Nat) (ks : List Nat) (C : CX g K cc own n fr lo) (hk : lv[k]? = some (i, .int (iZ z))) (hd : decode cc pc = .ok (.iinc i d, 3)) (hn9 : i < n) (hl9 : lv_pick ((i, Value.int (iZ (z + d))) :: lv.filter (fun q => !(q.1 == i) && !(q.1 + 1 == i && q.2.category == 2))) ks = lv') (kk : GJ g K ws (pc + 3) lv' rest) : GJ g K ws pc lv rest := by
  obtain ⟨p, e, R, s, m, args, below, meth, c, A, Q, nL⟩ := K
  obtain ⟨hx, hb, hml, hown, hts, hK, hlk, hA, hfr, hlo, hN, hn⟩ := C
  intro H locs ls hP hD hS hl
  subst hn
  exact lv_iinc (v := iZ (z + d)) hx hb hd hl hk (iZ_add z d) hn9 rfl (fun ls' hl' => kk H locs ls' hP hD hS (lv_sub hl' ks hl9))

theorem g_lv {g : Gx} {K : Kx} {ws : va_W} {pc : Nat} {lv lv' : List (Nat × Value)} {st : List Value} (ks : List Nat) (h : lv_pick lv ks = lv') (k : GJ g K ws pc lv' st) : GJ g K ws pc lv st := by
  obtain ⟨p, e, R, s, m, args, below, meth, c, A, Q, nL⟩ := K
  intro H locs ls hP hD hS hl
  exact k H locs ls hP hD hS (lv_sub hl ks h)

theorem g_iadd {g : Gx} {K : Kx} {cc : ByteArray} {own : String} {n fr lo : Nat} {ws : va_W} {pc : Nat} {lv : List (Nat × Value)} {rest : List Value} {a b : Int} (C : CX g K cc own n fr lo) (hd : decode cc pc = .ok (.iadd, 1)) (k : GJ g K ws (pc + 1) lv (.int (iZ (a + b)) :: rest)) : GJ g K ws pc lv (.int (iZ b) :: .int (iZ a) :: rest) := by
  obtain ⟨p, e, R, s, m, args, below, meth, c, A, Q, nL⟩ := K
  obtain ⟨hx, hb, hml, hown, hts, hK, hlk, hA, hfr, hlo, hN, hn⟩ := C
  intro H locs ls hP hD hS hl
  refine lv_iadd hx hb hd ?_
  rw [iZ_add]
  exact k H locs ls hP hD hS hl

theorem g_isub {g : Gx} {K : Kx} {cc : ByteArray} {own : String} {n fr lo : Nat} {ws : va_W} {pc : Nat} {lv : List (Nat × Value)} {rest : List Value} {a b : Int} (C : CX g K cc own n fr lo) (hd : decode cc pc = .ok (.isub, 1)) (k : GJ g K ws (pc + 1) lv (.int (iZ (a - b)) :: rest)) : GJ g K ws pc lv (.int (iZ b) :: .int (iZ a) :: rest) := by
  obtain ⟨p, e, R, s, m, args, below, meth, c, A, Q, nL⟩ := K
  obtain ⟨hx, hb, hml, hown, hts, hK, hlk, hA, hfr, hlo, hN, hn⟩ := C
  intro H locs ls hP hD hS hl
  refine lv_isub hx hb hd ?_
  rw [iZ_sub]
  exact k H locs ls hP hD hS hl

theorem g_imul {g : Gx} {K : Kx} {cc : ByteArray} {own : String} {n fr lo : Nat} {ws : va_W} {pc : Nat} {lv : List (Nat × Value)} {rest : List Value} {a b : Int} (C : CX g K cc own n fr lo) (hd : decode cc pc = .ok (.imul, 1)) (k : GJ g K ws (pc + 1) lv (.int (iZ (a * b)) :: rest)) : GJ g K ws pc lv (.int (iZ b) :: .int (iZ a) :: rest) := by
  obtain ⟨p, e, R, s, m, args, below, meth, c, A, Q, nL⟩ := K
  obtain ⟨hx, hb, hml, hown, hts, hK, hlk, hA, hfr, hlo, hN, hn⟩ := C
  intro H locs ls hP hD hS hl
  refine lv_imul hx hb hd ?_
  rw [iZ_mul]
  exact k H locs ls hP hD hS hl

theorem g_ineg {g : Gx} {K : Kx} {cc : ByteArray} {own : String} {n fr lo : Nat} {ws : va_W} {pc : Nat} {lv : List (Nat × Value)} {rest : List Value} {a : Int} (C : CX g K cc own n fr lo) (hd : decode cc pc = .ok (.ineg, 1)) (k : GJ g K ws (pc + 1) lv (.int (iZ (-a)) :: rest)) : GJ g K ws pc lv (.int (iZ a) :: rest) := by
  obtain ⟨p, e, R, s, m, args, below, meth, c, A, Q, nL⟩ := K
  obtain ⟨hx, hb, hml, hown, hts, hK, hlk, hA, hfr, hlo, hN, hn⟩ := C
  intro H locs ls hP hD hS hl
  refine lv_ineg hx hb hd ?_
  rw [iZ_neg]
  exact k H locs ls hP hD hS hl

theorem g_idiv {g : Gx} {K : Kx} {cc : ByteArray} {own : String} {n fr lo : Nat} {ws : va_W} {pc : Nat} {lv : List (Nat × Value)} {rest : List Value} {a b : Int} (C : CX g K cc own n fr lo) (hd : decode cc pc = .ok (.idiv, 1)) (ha : I32 a) (hb9 : I32 b) (hne : b ≠ 0) (k : GJ g K ws (pc + 1) lv (.int (iZ (a.tdiv b)) :: rest)) : GJ g K ws pc lv (.int (iZ b) :: .int (iZ a) :: rest) := by
  obtain ⟨p, e, R, s, m, args, below, meth, c, A, Q, nL⟩ := K
  obtain ⟨hx, hb, hml, hown, hts, hK, hlk, hA, hfr, hlo, hN, hn⟩ := C
  intro H locs ls hP hD hS hl
  refine lv_idiv hx hb hd (fun q => hne ((iZ_eq hb9 I32_0).mp q)) ?_
  rw [iZ_div ha hb9]
  exact k H locs ls hP hD hS hl

theorem g_irem {g : Gx} {K : Kx} {cc : ByteArray} {own : String} {n fr lo : Nat} {ws : va_W} {pc : Nat} {lv : List (Nat × Value)} {rest : List Value} {a b : Int} (C : CX g K cc own n fr lo) (hd : decode cc pc = .ok (.irem, 1)) (ha : I32 a) (hb9 : I32 b) (hne : b ≠ 0) (k : GJ g K ws (pc + 1) lv (.int (iZ (a.tmod b)) :: rest)) : GJ g K ws pc lv (.int (iZ b) :: .int (iZ a) :: rest) := by
  obtain ⟨p, e, R, s, m, args, below, meth, c, A, Q, nL⟩ := K
  obtain ⟨hx, hb, hml, hown, hts, hK, hlk, hA, hfr, hlo, hN, hn⟩ := C
  intro H locs ls hP hD hS hl
  refine lv_irem hx hb hd (fun q => hne ((iZ_eq hb9 I32_0).mp q)) ?_
  rw [iZ_rem ha hb9]
  exact k H locs ls hP hD hS hl

theorem g_ladd {g : Gx} {K : Kx} {cc : ByteArray} {own : String} {n fr lo : Nat} {ws : va_W} {pc : Nat} {lv : List (Nat × Value)} {rest : List Value} {a b : Int} (C : CX g K cc own n fr lo) (hd : decode cc pc = .ok (.ladd, 1)) (k : GJ g K ws (pc + 1) lv (.long (lZ (a + b)) :: rest)) : GJ g K ws pc lv (.long (lZ b) :: .long (lZ a) :: rest) := by
  obtain ⟨p, e, R, s, m, args, below, meth, c, A, Q, nL⟩ := K
  obtain ⟨hx, hb, hml, hown, hts, hK, hlk, hA, hfr, hlo, hN, hn⟩ := C
  intro H locs ls hP hD hS hl
  refine lv_ladd hx hb hd ?_
  rw [lZ_add]
  exact k H locs ls hP hD hS hl

theorem g_lsub {g : Gx} {K : Kx} {cc : ByteArray} {own : String} {n fr lo : Nat} {ws : va_W} {pc : Nat} {lv : List (Nat × Value)} {rest : List Value} {a b : Int} (C : CX g K cc own n fr lo) (hd : decode cc pc = .ok (.lsub, 1)) (k : GJ g K ws (pc + 1) lv (.long (lZ (a - b)) :: rest)) : GJ g K ws pc lv (.long (lZ b) :: .long (lZ a) :: rest) := by
  obtain ⟨p, e, R, s, m, args, below, meth, c, A, Q, nL⟩ := K
  obtain ⟨hx, hb, hml, hown, hts, hK, hlk, hA, hfr, hlo, hN, hn⟩ := C
  intro H locs ls hP hD hS hl
  refine lv_lsub hx hb hd ?_
  rw [lZ_sub]
  exact k H locs ls hP hD hS hl

theorem g_lmul {g : Gx} {K : Kx} {cc : ByteArray} {own : String} {n fr lo : Nat} {ws : va_W} {pc : Nat} {lv : List (Nat × Value)} {rest : List Value} {a b : Int} (C : CX g K cc own n fr lo) (hd : decode cc pc = .ok (.lmul, 1)) (k : GJ g K ws (pc + 1) lv (.long (lZ (a * b)) :: rest)) : GJ g K ws pc lv (.long (lZ b) :: .long (lZ a) :: rest) := by
  obtain ⟨p, e, R, s, m, args, below, meth, c, A, Q, nL⟩ := K
  obtain ⟨hx, hb, hml, hown, hts, hK, hlk, hA, hfr, hlo, hN, hn⟩ := C
  intro H locs ls hP hD hS hl
  refine lv_lmul hx hb hd ?_
  rw [lZ_mul]
  exact k H locs ls hP hD hS hl

theorem g_lneg {g : Gx} {K : Kx} {cc : ByteArray} {own : String} {n fr lo : Nat} {ws : va_W} {pc : Nat} {lv : List (Nat × Value)} {rest : List Value} {a : Int} (C : CX g K cc own n fr lo) (hd : decode cc pc = .ok (.lneg, 1)) (k : GJ g K ws (pc + 1) lv (.long (lZ (-a)) :: rest)) : GJ g K ws pc lv (.long (lZ a) :: rest) := by
  obtain ⟨p, e, R, s, m, args, below, meth, c, A, Q, nL⟩ := K
  obtain ⟨hx, hb, hml, hown, hts, hK, hlk, hA, hfr, hlo, hN, hn⟩ := C
  intro H locs ls hP hD hS hl
  refine lv_lneg hx hb hd ?_
  rw [lZ_neg]
  exact k H locs ls hP hD hS hl

theorem g_ldiv {g : Gx} {K : Kx} {cc : ByteArray} {own : String} {n fr lo : Nat} {ws : va_W} {pc : Nat} {lv : List (Nat × Value)} {rest : List Value} {a b : Int} (C : CX g K cc own n fr lo) (hd : decode cc pc = .ok (.ldiv, 1)) (ha : I64 a) (hb9 : I64 b) (hne : b ≠ 0) (k : GJ g K ws (pc + 1) lv (.long (lZ (a.tdiv b)) :: rest)) : GJ g K ws pc lv (.long (lZ b) :: .long (lZ a) :: rest) := by
  obtain ⟨p, e, R, s, m, args, below, meth, c, A, Q, nL⟩ := K
  obtain ⟨hx, hb, hml, hown, hts, hK, hlk, hA, hfr, hlo, hN, hn⟩ := C
  intro H locs ls hP hD hS hl
  refine lv_ldiv hx hb hd (fun q => hne ((lZ_eq hb9 I64_0).mp q)) ?_
  rw [lZ_div ha hb9]
  exact k H locs ls hP hD hS hl

theorem g_lrem {g : Gx} {K : Kx} {cc : ByteArray} {own : String} {n fr lo : Nat} {ws : va_W} {pc : Nat} {lv : List (Nat × Value)} {rest : List Value} {a b : Int} (C : CX g K cc own n fr lo) (hd : decode cc pc = .ok (.lrem, 1)) (ha : I64 a) (hb9 : I64 b) (hne : b ≠ 0) (k : GJ g K ws (pc + 1) lv (.long (lZ (a.tmod b)) :: rest)) : GJ g K ws pc lv (.long (lZ b) :: .long (lZ a) :: rest) := by
  obtain ⟨p, e, R, s, m, args, below, meth, c, A, Q, nL⟩ := K
  obtain ⟨hx, hb, hml, hown, hts, hK, hlk, hA, hfr, hlo, hN, hn⟩ := C
  intro H locs ls hP hD hS hl
  refine lv_lrem hx hb hd (fun q => hne ((lZ_eq hb9 I64_0).mp q)) ?_
  rw [lZ_rem ha hb9]
  exact k H locs ls hP hD hS hl

theorem g_i2l {g : Gx} {K : Kx} {cc : ByteArray} {own : String} {n fr lo : Nat} {ws : va_W} {pc : Nat} {lv : List (Nat × Value)} {rest : List Value} {a : Int} (C : CX g K cc own n fr lo) (hd : decode cc pc = .ok (.i2l, 1)) (ha : I32 a) (k : GJ g K ws (pc + 1) lv (.long (lZ a) :: rest)) : GJ g K ws pc lv (.int (iZ a) :: rest) := by
  obtain ⟨p, e, R, s, m, args, below, meth, c, A, Q, nL⟩ := K
  obtain ⟨hx, hb, hml, hown, hts, hK, hlk, hA, hfr, hlo, hN, hn⟩ := C
  intro H locs ls hP hD hS hl
  exact lv_i2l hx hb hd (iZ_l ha) (k H locs ls hP hD hS hl)

theorem g_dup {g : Gx} {K : Kx} {cc : ByteArray} {own : String} {n fr lo : Nat} {ws : va_W} {pc : Nat} {lv : List (Nat × Value)} {rest : List Value} {v : Value} (C : CX g K cc own n fr lo) (hd : decode cc pc = .ok (.dup, 1)) (hv : v.category = 1) (k : GJ g K ws (pc + 1) lv (v :: v :: rest)) : GJ g K ws pc lv (v :: rest) := by
  obtain ⟨p, e, R, s, m, args, below, meth, c, A, Q, nL⟩ := K
  obtain ⟨hx, hb, hml, hown, hts, hK, hlk, hA, hfr, hlo, hN, hn⟩ := C
  intro H locs ls hP hD hS hl
  exact lv_dup hx hb hd hv (k H locs ls hP hD hS hl)

theorem g_pop {g : Gx} {K : Kx} {cc : ByteArray} {own : String} {n fr lo : Nat} {ws : va_W} {pc : Nat} {lv : List (Nat × Value)} {rest : List Value} {v : Value} (C : CX g K cc own n fr lo) (hd : decode cc pc = .ok (.pop, 1)) (hv : v.category = 1) (k : GJ g K ws (pc + 1) lv rest) : GJ g K ws pc lv (v :: rest) := by
  obtain ⟨p, e, R, s, m, args, below, meth, c, A, Q, nL⟩ := K
  obtain ⟨hx, hb, hml, hown, hts, hK, hlk, hA, hfr, hlo, hN, hn⟩ := C
  intro H locs ls hP hD hS hl
  exact lv_pop hx hb hd hv (k H locs ls hP hD hS hl)

theorem g_dup2 {g : Gx} {K : Kx} {cc : ByteArray} {own : String} {n fr lo : Nat} {ws : va_W} {pc : Nat} {lv : List (Nat × Value)} {rest : List Value} {v w : Value} (C : CX g K cc own n fr lo) (hd : decode cc pc = .ok (.dup2, 1)) (hv : v.category = 1) (hw : w.category = 1) (k : GJ g K ws (pc + 1) lv (v :: w :: v :: w :: rest)) : GJ g K ws pc lv (v :: w :: rest) := by
  obtain ⟨p, e, R, s, m, args, below, meth, c, A, Q, nL⟩ := K
  obtain ⟨hx, hb, hml, hown, hts, hK, hlk, hA, hfr, hlo, hN, hn⟩ := C
  intro H locs ls hP hD hS hl
  exact lv_dup2_11 hx hb hd hv hw (k H locs ls hP hD hS hl)

theorem g_goto {g : Gx} {K : Kx} {cc : ByteArray} {own : String} {n fr lo : Nat} {ws : va_W} {pc : Nat} {lv : List (Nat × Value)} {rest : List Value} {off : Int} (tgt : Nat) (C : CX g K cc own n fr lo) (hd : decode cc pc = .ok (.goto off, 3)) (ht : (pc : Int) + off = (tgt : Int)) (k : GJ g K ws tgt lv rest) : GJ g K ws pc lv rest := by
  obtain ⟨p, e, R, s, m, args, below, meth, c, A, Q, nL⟩ := K
  obtain ⟨hx, hb, hml, hown, hts, hK, hlk, hA, hfr, hlo, hN, hn⟩ := C
  intro H locs ls hP hD hS hl
  exact lv_goto hx hb hd ht (k H locs ls hP hD hS hl)

theorem g_icmp_eq {g : Gx} {K : Kx} {cc : ByteArray} {own : String} {n fr lo : Nat} {ws : va_W} {pc : Nat} {lv : List (Nat × Value)} {rest : List Value} {a b off : Int} (tgt : Nat) (C : CX g K cc own n fr lo) (ha : I32 a) (hb9 : I32 b) (hd : decode cc pc = .ok (.if_icmp .eq off, 3)) (ht : (pc : Int) + off = (tgt : Int)) (kt : a = b → GJ g K ws tgt lv rest) (kf : a ≠ b → GJ g K ws (pc + 3) lv rest) : GJ g K ws pc lv (.int (iZ b) :: .int (iZ a) :: rest) := by
  obtain ⟨p, e, R, s, m, args, below, meth, c, A, Q, nL⟩ := K
  obtain ⟨hx, hb, hml, hown, hts, hK, hlk, hA, hfr, hlo, hN, hn⟩ := C
  intro H locs ls hP hD hS hl
  exact lv_icmp_eq hx hb hd ht (fun q => kt ((iZ_eq ha hb9).mp q) H locs ls hP hD hS hl) (fun q => kf (fun r => q ((iZ_eq ha hb9).mpr r)) H locs ls hP hD hS hl)

theorem g_if_eq {g : Gx} {K : Kx} {cc : ByteArray} {own : String} {n fr lo : Nat} {ws : va_W} {pc : Nat} {lv : List (Nat × Value)} {rest : List Value} {a off : Int} (tgt : Nat) (C : CX g K cc own n fr lo) (ha : I32 a) (hd : decode cc pc = .ok (.ifCond .eq off, 3)) (ht : (pc : Int) + off = (tgt : Int)) (kt : a = 0 → GJ g K ws tgt lv rest) (kf : a ≠ 0 → GJ g K ws (pc + 3) lv rest) : GJ g K ws pc lv (.int (iZ a) :: rest) := by
  obtain ⟨p, e, R, s, m, args, below, meth, c, A, Q, nL⟩ := K
  obtain ⟨hx, hb, hml, hown, hts, hK, hlk, hA, hfr, hlo, hN, hn⟩ := C
  intro H locs ls hP hD hS hl
  exact lv_if_eq hx hb hd ht (fun q => kt ((iZ_eq ha I32_0).mp q) H locs ls hP hD hS hl) (fun q => kf (fun r => q ((iZ_eq ha I32_0).mpr r)) H locs ls hP hD hS hl)

theorem g_lcmp_eq {g : Gx} {K : Kx} {cc : ByteArray} {own : String} {n fr lo : Nat} {ws : va_W} {pc : Nat} {lv : List (Nat × Value)} {rest : List Value} {a b off : Int} (tgt : Nat) (C : CX g K cc own n fr lo) (ha : I64 a) (hb9 : I64 b) (hd0 : decode cc pc = .ok (.lcmp, 1)) (hd : decode cc (pc + 1) = .ok (.ifCond .eq off, 3)) (ht : ((pc + 1 : Nat) : Int) + off = (tgt : Int)) (kt : a = b → GJ g K ws tgt lv rest) (kf : a ≠ b → GJ g K ws (pc + 4) lv rest) : GJ g K ws pc lv (.long (lZ b) :: .long (lZ a) :: rest) := by
  obtain ⟨p, e, R, s, m, args, below, meth, c, A, Q, nL⟩ := K
  obtain ⟨hx, hb, hml, hown, hts, hK, hlk, hA, hfr, hlo, hN, hn⟩ := C
  intro H locs ls hP hD hS hl
  refine W.lcmp hx hb hd0 ?_
  exact lv_if_eq hx hb hd ht (fun q => kt (((lg_cmp_eq _ _).trans (lZ_eq ha hb9)).mp q) H locs ls hP hD hS hl) (fun q => kf (fun r => q (((lg_cmp_eq _ _).trans (lZ_eq ha hb9)).mpr r)) H locs ls hP hD hS hl)

theorem g_icmp_ne {g : Gx} {K : Kx} {cc : ByteArray} {own : String} {n fr lo : Nat} {ws : va_W} {pc : Nat} {lv : List (Nat × Value)} {rest : List Value} {a b off : Int} (tgt : Nat) (C : CX g K cc own n fr lo) (ha : I32 a) (hb9 : I32 b) (hd : decode cc pc = .ok (.if_icmp .ne off, 3)) (ht : (pc : Int) + off = (tgt : Int)) (kt : a ≠ b → GJ g K ws tgt lv rest) (kf : a = b → GJ g K ws (pc + 3) lv rest) : GJ g K ws pc lv (.int (iZ b) :: .int (iZ a) :: rest) := by
  obtain ⟨p, e, R, s, m, args, below, meth, c, A, Q, nL⟩ := K
  obtain ⟨hx, hb, hml, hown, hts, hK, hlk, hA, hfr, hlo, hN, hn⟩ := C
  intro H locs ls hP hD hS hl
  exact lv_icmp_ne hx hb hd ht (fun q => kt (fun r => q ((iZ_eq ha hb9).mpr r)) H locs ls hP hD hS hl) (fun q => kf ((iZ_eq ha hb9).mp q) H locs ls hP hD hS hl)

theorem g_if_ne {g : Gx} {K : Kx} {cc : ByteArray} {own : String} {n fr lo : Nat} {ws : va_W} {pc : Nat} {lv : List (Nat × Value)} {rest : List Value} {a off : Int} (tgt : Nat) (C : CX g K cc own n fr lo) (ha : I32 a) (hd : decode cc pc = .ok (.ifCond .ne off, 3)) (ht : (pc : Int) + off = (tgt : Int)) (kt : a ≠ 0 → GJ g K ws tgt lv rest) (kf : a = 0 → GJ g K ws (pc + 3) lv rest) : GJ g K ws pc lv (.int (iZ a) :: rest) := by
  obtain ⟨p, e, R, s, m, args, below, meth, c, A, Q, nL⟩ := K
  obtain ⟨hx, hb, hml, hown, hts, hK, hlk, hA, hfr, hlo, hN, hn⟩ := C
  intro H locs ls hP hD hS hl
  exact lv_if_ne hx hb hd ht (fun q => kt (fun r => q ((iZ_eq ha I32_0).mpr r)) H locs ls hP hD hS hl) (fun q => kf ((iZ_eq ha I32_0).mp q) H locs ls hP hD hS hl)

theorem g_lcmp_ne {g : Gx} {K : Kx} {cc : ByteArray} {own : String} {n fr lo : Nat} {ws : va_W} {pc : Nat} {lv : List (Nat × Value)} {rest : List Value} {a b off : Int} (tgt : Nat) (C : CX g K cc own n fr lo) (ha : I64 a) (hb9 : I64 b) (hd0 : decode cc pc = .ok (.lcmp, 1)) (hd : decode cc (pc + 1) = .ok (.ifCond .ne off, 3)) (ht : ((pc + 1 : Nat) : Int) + off = (tgt : Int)) (kt : a ≠ b → GJ g K ws tgt lv rest) (kf : a = b → GJ g K ws (pc + 4) lv rest) : GJ g K ws pc lv (.long (lZ b) :: .long (lZ a) :: rest) := by
  obtain ⟨p, e, R, s, m, args, below, meth, c, A, Q, nL⟩ := K
  obtain ⟨hx, hb, hml, hown, hts, hK, hlk, hA, hfr, hlo, hN, hn⟩ := C
  intro H locs ls hP hD hS hl
  refine W.lcmp hx hb hd0 ?_
  exact lv_if_ne hx hb hd ht (fun q => kt (fun r => q (((lg_cmp_eq _ _).trans (lZ_eq ha hb9)).mpr r)) H locs ls hP hD hS hl) (fun q => kf (((lg_cmp_eq _ _).trans (lZ_eq ha hb9)).mp q) H locs ls hP hD hS hl)

theorem g_icmp_lt {g : Gx} {K : Kx} {cc : ByteArray} {own : String} {n fr lo : Nat} {ws : va_W} {pc : Nat} {lv : List (Nat × Value)} {rest : List Value} {a b off : Int} (tgt : Nat) (C : CX g K cc own n fr lo) (ha : I32 a) (hb9 : I32 b) (hd : decode cc pc = .ok (.if_icmp .lt off, 3)) (ht : (pc : Int) + off = (tgt : Int)) (kt : a < b → GJ g K ws tgt lv rest) (kf : b ≤ a → GJ g K ws (pc + 3) lv rest) : GJ g K ws pc lv (.int (iZ b) :: .int (iZ a) :: rest) := by
  obtain ⟨p, e, R, s, m, args, below, meth, c, A, Q, nL⟩ := K
  obtain ⟨hx, hb, hml, hown, hts, hK, hlk, hA, hfr, hlo, hN, hn⟩ := C
  intro H locs ls hP hD hS hl
  exact lv_icmp_lt hx hb hd ht (fun q => kt ((iZ_lt ha hb9).mp q) H locs ls hP hD hS hl) (fun q => kf (by have h9 := mt (iZ_lt ha hb9).mpr q; omega) H locs ls hP hD hS hl)

theorem g_if_lt {g : Gx} {K : Kx} {cc : ByteArray} {own : String} {n fr lo : Nat} {ws : va_W} {pc : Nat} {lv : List (Nat × Value)} {rest : List Value} {a off : Int} (tgt : Nat) (C : CX g K cc own n fr lo) (ha : I32 a) (hd : decode cc pc = .ok (.ifCond .lt off, 3)) (ht : (pc : Int) + off = (tgt : Int)) (kt : a < 0 → GJ g K ws tgt lv rest) (kf : 0 ≤ a → GJ g K ws (pc + 3) lv rest) : GJ g K ws pc lv (.int (iZ a) :: rest) := by
  obtain ⟨p, e, R, s, m, args, below, meth, c, A, Q, nL⟩ := K
  obtain ⟨hx, hb, hml, hown, hts, hK, hlk, hA, hfr, hlo, hN, hn⟩ := C
  intro H locs ls hP hD hS hl
  exact lv_if_lt hx hb hd ht (fun q => kt ((iZ_lt ha I32_0).mp q) H locs ls hP hD hS hl) (fun q => kf (by have h9 := mt (iZ_lt ha I32_0).mpr q; omega) H locs ls hP hD hS hl)

theorem g_lcmp_lt {g : Gx} {K : Kx} {cc : ByteArray} {own : String} {n fr lo : Nat} {ws : va_W} {pc : Nat} {lv : List (Nat × Value)} {rest : List Value} {a b off : Int} (tgt : Nat) (C : CX g K cc own n fr lo) (ha : I64 a) (hb9 : I64 b) (hd0 : decode cc pc = .ok (.lcmp, 1)) (hd : decode cc (pc + 1) = .ok (.ifCond .lt off, 3)) (ht : ((pc + 1 : Nat) : Int) + off = (tgt : Int)) (kt : a < b → GJ g K ws tgt lv rest) (kf : b ≤ a → GJ g K ws (pc + 4) lv rest) : GJ g K ws pc lv (.long (lZ b) :: .long (lZ a) :: rest) := by
  obtain ⟨p, e, R, s, m, args, below, meth, c, A, Q, nL⟩ := K
  obtain ⟨hx, hb, hml, hown, hts, hK, hlk, hA, hfr, hlo, hN, hn⟩ := C
  intro H locs ls hP hD hS hl
  refine W.lcmp hx hb hd0 ?_
  exact lv_if_lt hx hb hd ht (fun q => kt (((lg_cmp_lt _ _).trans (lZ_lt ha hb9)).mp q) H locs ls hP hD hS hl) (fun q => kf (by have h9 := mt ((lg_cmp_lt _ _).trans (lZ_lt ha hb9)).mpr q; omega) H locs ls hP hD hS hl)

theorem g_icmp_ge {g : Gx} {K : Kx} {cc : ByteArray} {own : String} {n fr lo : Nat} {ws : va_W} {pc : Nat} {lv : List (Nat × Value)} {rest : List Value} {a b off : Int} (tgt : Nat) (C : CX g K cc own n fr lo) (ha : I32 a) (hb9 : I32 b) (hd : decode cc pc = .ok (.if_icmp .ge off, 3)) (ht : (pc : Int) + off = (tgt : Int)) (kt : b ≤ a → GJ g K ws tgt lv rest) (kf : a < b → GJ g K ws (pc + 3) lv rest) : GJ g K ws pc lv (.int (iZ b) :: .int (iZ a) :: rest) := by
  obtain ⟨p, e, R, s, m, args, below, meth, c, A, Q, nL⟩ := K
  obtain ⟨hx, hb, hml, hown, hts, hK, hlk, hA, hfr, hlo, hN, hn⟩ := C
  intro H locs ls hP hD hS hl
  exact lv_icmp_ge hx hb hd ht (fun q => kt ((iZ_le hb9 ha).mp q) H locs ls hP hD hS hl) (fun q => kf (by have h9 := mt (iZ_le hb9 ha).mpr q; omega) H locs ls hP hD hS hl)

theorem g_if_ge {g : Gx} {K : Kx} {cc : ByteArray} {own : String} {n fr lo : Nat} {ws : va_W} {pc : Nat} {lv : List (Nat × Value)} {rest : List Value} {a off : Int} (tgt : Nat) (C : CX g K cc own n fr lo) (ha : I32 a) (hd : decode cc pc = .ok (.ifCond .ge off, 3)) (ht : (pc : Int) + off = (tgt : Int)) (kt : 0 ≤ a → GJ g K ws tgt lv rest) (kf : a < 0 → GJ g K ws (pc + 3) lv rest) : GJ g K ws pc lv (.int (iZ a) :: rest) := by
  obtain ⟨p, e, R, s, m, args, below, meth, c, A, Q, nL⟩ := K
  obtain ⟨hx, hb, hml, hown, hts, hK, hlk, hA, hfr, hlo, hN, hn⟩ := C
  intro H locs ls hP hD hS hl
  exact lv_if_ge hx hb hd ht (fun q => kt ((iZ_le I32_0 ha).mp q) H locs ls hP hD hS hl) (fun q => kf (by have h9 := mt (iZ_le I32_0 ha).mpr q; omega) H locs ls hP hD hS hl)

theorem g_lcmp_ge {g : Gx} {K : Kx} {cc : ByteArray} {own : String} {n fr lo : Nat} {ws : va_W} {pc : Nat} {lv : List (Nat × Value)} {rest : List Value} {a b off : Int} (tgt : Nat) (C : CX g K cc own n fr lo) (ha : I64 a) (hb9 : I64 b) (hd0 : decode cc pc = .ok (.lcmp, 1)) (hd : decode cc (pc + 1) = .ok (.ifCond .ge off, 3)) (ht : ((pc + 1 : Nat) : Int) + off = (tgt : Int)) (kt : b ≤ a → GJ g K ws tgt lv rest) (kf : a < b → GJ g K ws (pc + 4) lv rest) : GJ g K ws pc lv (.long (lZ b) :: .long (lZ a) :: rest) := by
  obtain ⟨p, e, R, s, m, args, below, meth, c, A, Q, nL⟩ := K
  obtain ⟨hx, hb, hml, hown, hts, hK, hlk, hA, hfr, hlo, hN, hn⟩ := C
  intro H locs ls hP hD hS hl
  refine W.lcmp hx hb hd0 ?_
  exact lv_if_ge hx hb hd ht (fun q => kt (((lg_cmp_ge _ _).trans (lZ_le hb9 ha)).mp q) H locs ls hP hD hS hl) (fun q => kf (by have h9 := mt ((lg_cmp_ge _ _).trans (lZ_le hb9 ha)).mpr q; omega) H locs ls hP hD hS hl)

theorem g_icmp_gt {g : Gx} {K : Kx} {cc : ByteArray} {own : String} {n fr lo : Nat} {ws : va_W} {pc : Nat} {lv : List (Nat × Value)} {rest : List Value} {a b off : Int} (tgt : Nat) (C : CX g K cc own n fr lo) (ha : I32 a) (hb9 : I32 b) (hd : decode cc pc = .ok (.if_icmp .gt off, 3)) (ht : (pc : Int) + off = (tgt : Int)) (kt : b < a → GJ g K ws tgt lv rest) (kf : a ≤ b → GJ g K ws (pc + 3) lv rest) : GJ g K ws pc lv (.int (iZ b) :: .int (iZ a) :: rest) := by
  obtain ⟨p, e, R, s, m, args, below, meth, c, A, Q, nL⟩ := K
  obtain ⟨hx, hb, hml, hown, hts, hK, hlk, hA, hfr, hlo, hN, hn⟩ := C
  intro H locs ls hP hD hS hl
  exact lv_icmp_gt hx hb hd ht (fun q => kt ((iZ_lt hb9 ha).mp q) H locs ls hP hD hS hl) (fun q => kf (by have h9 := mt (iZ_lt hb9 ha).mpr q; omega) H locs ls hP hD hS hl)

theorem g_if_gt {g : Gx} {K : Kx} {cc : ByteArray} {own : String} {n fr lo : Nat} {ws : va_W} {pc : Nat} {lv : List (Nat × Value)} {rest : List Value} {a off : Int} (tgt : Nat) (C : CX g K cc own n fr lo) (ha : I32 a) (hd : decode cc pc = .ok (.ifCond .gt off, 3)) (ht : (pc : Int) + off = (tgt : Int)) (kt : 0 < a → GJ g K ws tgt lv rest) (kf : a ≤ 0 → GJ g K ws (pc + 3) lv rest) : GJ g K ws pc lv (.int (iZ a) :: rest) := by
  obtain ⟨p, e, R, s, m, args, below, meth, c, A, Q, nL⟩ := K
  obtain ⟨hx, hb, hml, hown, hts, hK, hlk, hA, hfr, hlo, hN, hn⟩ := C
  intro H locs ls hP hD hS hl
  exact lv_if_gt hx hb hd ht (fun q => kt ((iZ_lt I32_0 ha).mp q) H locs ls hP hD hS hl) (fun q => kf (by have h9 := mt (iZ_lt I32_0 ha).mpr q; omega) H locs ls hP hD hS hl)

theorem g_lcmp_gt {g : Gx} {K : Kx} {cc : ByteArray} {own : String} {n fr lo : Nat} {ws : va_W} {pc : Nat} {lv : List (Nat × Value)} {rest : List Value} {a b off : Int} (tgt : Nat) (C : CX g K cc own n fr lo) (ha : I64 a) (hb9 : I64 b) (hd0 : decode cc pc = .ok (.lcmp, 1)) (hd : decode cc (pc + 1) = .ok (.ifCond .gt off, 3)) (ht : ((pc + 1 : Nat) : Int) + off = (tgt : Int)) (kt : b < a → GJ g K ws tgt lv rest) (kf : a ≤ b → GJ g K ws (pc + 4) lv rest) : GJ g K ws pc lv (.long (lZ b) :: .long (lZ a) :: rest) := by
  obtain ⟨p, e, R, s, m, args, below, meth, c, A, Q, nL⟩ := K
  obtain ⟨hx, hb, hml, hown, hts, hK, hlk, hA, hfr, hlo, hN, hn⟩ := C
  intro H locs ls hP hD hS hl
  refine W.lcmp hx hb hd0 ?_
  exact lv_if_gt hx hb hd ht (fun q => kt (((lg_cmp_gt _ _).trans (lZ_lt hb9 ha)).mp q) H locs ls hP hD hS hl) (fun q => kf (by have h9 := mt ((lg_cmp_gt _ _).trans (lZ_lt hb9 ha)).mpr q; omega) H locs ls hP hD hS hl)

theorem g_icmp_le {g : Gx} {K : Kx} {cc : ByteArray} {own : String} {n fr lo : Nat} {ws : va_W} {pc : Nat} {lv : List (Nat × Value)} {rest : List Value} {a b off : Int} (tgt : Nat) (C : CX g K cc own n fr lo) (ha : I32 a) (hb9 : I32 b) (hd : decode cc pc = .ok (.if_icmp .le off, 3)) (ht : (pc : Int) + off = (tgt : Int)) (kt : a ≤ b → GJ g K ws tgt lv rest) (kf : b < a → GJ g K ws (pc + 3) lv rest) : GJ g K ws pc lv (.int (iZ b) :: .int (iZ a) :: rest) := by
  obtain ⟨p, e, R, s, m, args, below, meth, c, A, Q, nL⟩ := K
  obtain ⟨hx, hb, hml, hown, hts, hK, hlk, hA, hfr, hlo, hN, hn⟩ := C
  intro H locs ls hP hD hS hl
  exact lv_icmp_le hx hb hd ht (fun q => kt ((iZ_le ha hb9).mp q) H locs ls hP hD hS hl) (fun q => kf (by have h9 := mt (iZ_le ha hb9).mpr q; omega) H locs ls hP hD hS hl)

theorem g_if_le {g : Gx} {K : Kx} {cc : ByteArray} {own : String} {n fr lo : Nat} {ws : va_W} {pc : Nat} {lv : List (Nat × Value)} {rest : List Value} {a off : Int} (tgt : Nat) (C : CX g K cc own n fr lo) (ha : I32 a) (hd : decode cc pc = .ok (.ifCond .le off, 3)) (ht : (pc : Int) + off = (tgt : Int)) (kt : a ≤ 0 → GJ g K ws tgt lv rest) (kf : 0 < a → GJ g K ws (pc + 3) lv rest) : GJ g K ws pc lv (.int (iZ a) :: rest) := by
  obtain ⟨p, e, R, s, m, args, below, meth, c, A, Q, nL⟩ := K
  obtain ⟨hx, hb, hml, hown, hts, hK, hlk, hA, hfr, hlo, hN, hn⟩ := C
  intro H locs ls hP hD hS hl
  exact lv_if_le hx hb hd ht (fun q => kt ((iZ_le ha I32_0).mp q) H locs ls hP hD hS hl) (fun q => kf (by have h9 := mt (iZ_le ha I32_0).mpr q; omega) H locs ls hP hD hS hl)

theorem g_lcmp_le {g : Gx} {K : Kx} {cc : ByteArray} {own : String} {n fr lo : Nat} {ws : va_W} {pc : Nat} {lv : List (Nat × Value)} {rest : List Value} {a b off : Int} (tgt : Nat) (C : CX g K cc own n fr lo) (ha : I64 a) (hb9 : I64 b) (hd0 : decode cc pc = .ok (.lcmp, 1)) (hd : decode cc (pc + 1) = .ok (.ifCond .le off, 3)) (ht : ((pc + 1 : Nat) : Int) + off = (tgt : Int)) (kt : a ≤ b → GJ g K ws tgt lv rest) (kf : b < a → GJ g K ws (pc + 4) lv rest) : GJ g K ws pc lv (.long (lZ b) :: .long (lZ a) :: rest) := by
  obtain ⟨p, e, R, s, m, args, below, meth, c, A, Q, nL⟩ := K
  obtain ⟨hx, hb, hml, hown, hts, hK, hlk, hA, hfr, hlo, hN, hn⟩ := C
  intro H locs ls hP hD hS hl
  refine W.lcmp hx hb hd0 ?_
  exact lv_if_le hx hb hd ht (fun q => kt (((lg_cmp_le _ _).trans (lZ_le ha hb9)).mp q) H locs ls hP hD hS hl) (fun q => kf (by have h9 := mt ((lg_cmp_le _ _).trans (lZ_le ha hb9)).mpr q; omega) H locs ls hP hD hS hl)

theorem g_beq {g : Gx} {K : Kx} {cc : ByteArray} {own : String} {n fr lo : Nat} {ws : va_W} {pc : Nat} {lv : List (Nat × Value)} {rest : List Value} {P : Prop} {off : Int} (tgt : Nat) (C : CX g K cc own n fr lo) (hd : decode cc pc = .ok (.ifCond .eq off, 3)) (ht : (pc : Int) + off = (tgt : Int)) (kt : ¬ P → GJ g K ws tgt lv rest) (kf : P → GJ g K ws (pc + 3) lv rest) : GJ g K ws pc lv (.int (iZ (bZ P)) :: rest) := by
  exact g_if_eq tgt C (bZ_I P) hd ht (fun q => kt (bZ_0.mp q)) (fun q => kf (bZ_n0.mp q))

theorem g_bne {g : Gx} {K : Kx} {cc : ByteArray} {own : String} {n fr lo : Nat} {ws : va_W} {pc : Nat} {lv : List (Nat × Value)} {rest : List Value} {P : Prop} {off : Int} (tgt : Nat) (C : CX g K cc own n fr lo) (hd : decode cc pc = .ok (.ifCond .ne off, 3)) (ht : (pc : Int) + off = (tgt : Int)) (kt : P → GJ g K ws tgt lv rest) (kf : ¬ P → GJ g K ws (pc + 3) lv rest) : GJ g K ws pc lv (.int (iZ (bZ P)) :: rest) := by
  exact g_if_ne tgt C (bZ_I P) hd ht (fun q => kt (bZ_n0.mp q)) (fun q => kf (bZ_0.mp q))

theorem g_iret {g : Gx} {K : Kx} {cc : ByteArray} {own : String} {n fr lo : Nat} {pc : Nat} {lv : List (Nat × Value)} {S : Type} {Wf : S → va_W} {post : Option Value → S → Prop} {u : S} {x : Int32} (C : CX g K cc own n fr lo) (T : RT g K (some .int) Wf post) (hd : decode cc pc = .ok (.ireturn, 1)) (h : post (some (.int x)) u) : GJ g K (Wf u) pc lv [.int x] := by
  obtain ⟨p, e, R, s, m, args, below, meth, c, A, Q, nL⟩ := K
  obtain ⟨hx, hb, hml, hown, hts, hK, hlk, hA, hfr, hlo, hN, hn⟩ := C
  intro H locs ls hP hD hS hl
  obtain ⟨hr, rfl⟩ := T
  exact W.iret hx hb hr (fun t ht _ => ⟨⟨_, u, rfl, h, by rw [ht]; exact hP, hD⟩, hS.F ht⟩) hS.2.2 hd hlk

theorem g_lret {g : Gx} {K : Kx} {cc : ByteArray} {own : String} {n fr lo : Nat} {pc : Nat} {lv : List (Nat × Value)} {S : Type} {Wf : S → va_W} {post : Option Value → S → Prop} {u : S} {x : Int64} (C : CX g K cc own n fr lo) (T : RT g K (some .long) Wf post) (hd : decode cc pc = .ok (.lreturn, 1)) (h : post (some (.long x)) u) : GJ g K (Wf u) pc lv [.long x] := by
  obtain ⟨p, e, R, s, m, args, below, meth, c, A, Q, nL⟩ := K
  obtain ⟨hx, hb, hml, hown, hts, hK, hlk, hA, hfr, hlo, hN, hn⟩ := C
  intro H locs ls hP hD hS hl
  obtain ⟨hr, rfl⟩ := T
  exact W.lret hx hb hr (fun t ht _ => ⟨⟨_, u, rfl, h, by rw [ht]; exact hP, hD⟩, hS.F ht⟩) hS.2.2 hd hlk

theorem g_vret {g : Gx} {K : Kx} {cc : ByteArray} {own : String} {n fr lo : Nat} {pc : Nat} {lv : List (Nat × Value)} {S : Type} {Wf : S → va_W} {post : Option Value → S → Prop} {u : S}  (C : CX g K cc own n fr lo) (T : RT g K (none) Wf post) (hd : decode cc pc = .ok (.return_, 1)) (h : post (none) u) : GJ g K (Wf u) pc lv [] := by
  obtain ⟨p, e, R, s, m, args, below, meth, c, A, Q, nL⟩ := K
  obtain ⟨hx, hb, hml, hown, hts, hK, hlk, hA, hfr, hlo, hN, hn⟩ := C
  intro H locs ls hP hD hS hl
  obtain ⟨hr, rfl⟩ := T
  exact W.vret hx hb hr (fun t ht _ => ⟨⟨_, u, rfl, h, by rw [ht]; exact hP, hD⟩, hS.F ht⟩) hS.2.2 hd hlk

theorem nar_b {z : Int} (h : z = 0 ∨ z = 1) : narrow .boolean (.int (iZ z)) = .int (iZ z) ∧ fits .boolean (.int (iZ z)) = true := by
  rcases h with rfl | rfl <;> exact ⟨by decide +kernel, by decide +kernel⟩
theorem g_zret {g : Gx} {K : Kx} {cc : ByteArray} {own : String} {n fr lo : Nat} {pc : Nat} {lv : List (Nat × Value)} {S : Type} {Wf : S → va_W} {post : Option Value → S → Prop} {u : S} {z : Int} (C : CX g K cc own n fr lo) (T : RT g K (some .boolean) Wf post) (hd : decode cc pc = .ok (.ireturn, 1)) (hz : z = 0 ∨ z = 1) (h : post (some (.int (iZ z))) u) : GJ g K (Wf u) pc lv [.int (iZ z)] := by
  obtain ⟨p, e, R, s, m, args, below, meth, c, A, Q, nL⟩ := K
  obtain ⟨hx, hb, hml, hown, hts, hK, hlk, hA, hfr, hlo, hN, hn⟩ := C
  intro H locs ls hP hD hS hl
  obtain ⟨hr, rfl⟩ := T
  exact W.zret hx hb hr (nar_b hz).1 (fun t ht _ => ⟨⟨_, u, rfl, h, by rw [ht]; exact hP, hD⟩, hS.F ht⟩) hS.2.2 hd hlk

theorem g_get {g : Gx} {K : Kx} {cc : ByteArray} {own : String} {n fr lo : Nat} {ws : va_W} {pc : Nat} {lv : List (Nat × Value)} {rest : List Value} (C : CX g K cc own n fr lo) (q0 ci k : Nat) {a N idx : Nat} {fs : List Value} {C0 : String} {T0 : u_T} {v : Value} (he : ws[q0]? = some (a, .inr (ci, fs))) (hc : vwCl[ci]? = some (C0, T0, N)) (hk : k < N) (hin : ∀ w ∈ u_ws C0 T0 N, w ∈ BIG) (hlink : Cond.fieldLink own idx (T0 k).1 (T0 k).2.1 (T0 k).2.2.1 ∈ BIG) (hv : fs[k]? = some v) (hd : decode cc pc = .ok (.getfield idx, 3)) (kk : GJ g K ws (pc + 3) lv (v :: rest)) : GJ g K ws pc lv (.ref a :: rest) := by
  obtain ⟨p, e, R, s, m, args, below, meth, c, A, Q, nL⟩ := K
  obtain ⟨hx, hb, hml, hown, hts, hK, hlk, hA, hfr, hlo, hN, hn⟩ := C
  intro H locs ls hP hD hS hl
  exact va_get hx hb hts hin hown hK hP q0 he hc k hk (hts _ hlink) (fun _ h9 => h9) hv hd (kk H locs ls hP hD hS hl)
theorem g_put {g : Gx} {K : Kx} {cc : ByteArray} {own : String} {n fr lo : Nat} {ws : va_W} {pc : Nat} {lv : List (Nat × Value)} {rest : List Value} (C : CX g K cc own n fr lo) (q0 ci k : Nat) {a N idx : Nat} {fs : List Value} {C0 : String} {T0 : u_T} {v : Value} {ws' : va_W} (ty0 : Nat → FieldType) (he : ws[q0]? = some (a, .inr (ci, fs))) (hc : vwCl[ci]? = some (C0, T0, N)) (hk : k < N) (hin : ∀ w ∈ u_ws C0 T0 N, w ∈ BIG) (hty : ∀ k, k < N → parseFieldDescriptor (T0 k).2.2.1 = some (ty0 k)) (hnm : ∀ a, a < N → ∀ b, b < N → a ≠ b → (T0 a).2.1 ≠ (T0 b).2.1) (hlink : Cond.fieldLink own idx (T0 k).1 (T0 k).2.1 (T0 k).2.2.1 ∈ BIG) (hfin : (T0 k).2.2.2 = false) (hn9 : narrow (ty0 k) v = v) (hfit : fits (ty0 k) v = true) (hlen : k < fs.length) (hset : ws.set q0 (a, .inr (ci, fs.set k v)) = ws') (hd : decode cc pc = .ok (.putfield idx, 3)) (kk : GJ g K ws' (pc + 3) lv rest) : GJ g K ws pc lv (v :: .ref a :: rest) := by
  obtain ⟨p, e, R, s, m, args, below, meth, c, A, Q, nL⟩ := K
  obtain ⟨hx, hb, hml, hown, hts, hK, hlk, hA, hfr, hlo, hN, hn⟩ := C
  intro H locs ls hP hD hS hl
  subst hset
  exact va_put hx hb hts hin ty0 hty hnm hown hK hP hD hS q0 he hc k hk (hts _ hlink) (fun _ h9 => h9) hfin (hty k hk) hn9 hfit hlen hd (fun H1 locs1 hP1 hD1 hS1 => kk H1 locs1 ls hP1 hD1 hS1 hl)

theorem g_iald {g : Gx} {K : Kx} {cc : ByteArray} {own : String} {n fr lo : Nat} {nC : Nat} {E : Nat → (Nat → Int) → va_E} {q : Nat → Nat} {σ : Nat → Nat → Int} {pc : Nat} {lv : List (Nat × Value)} {rest : List Value} (C : CX g K cc own n fr lo) (c0 j : Nat) {len : Nat} {z : Int} (hc : c0 < nC) (hE : ∀ f : Nat → Int, E c0 f = .inl (g.2.2.1, len, .inl (fun j => iZ (f j)))) (hz : z = (j : Int)) (hj : j < len) (hlen : len ≤ 1000) (hd : decode cc pc = .ok (.iaload, 1)) (kk : GJ g K (WD nC E q σ) (pc + 1) lv (.int (iZ (σ c0 j)) :: rest)) : GJ g K (WD nC E q σ) pc lv (.int (iZ z) :: .ref (q c0) :: rest) := by
  obtain ⟨p, e, R, s, m, args, below, meth, c, A, Q, nL⟩ := K
  obtain ⟨hx, hb, hml, hown, hts, hK, hlk, hA, hfr, hlo, hN, hn⟩ := C
  intro H locs ls hP hD hS hl
  obtain ⟨h1, h2⟩ := iZ_in hz hj hlen
  refine va_iald hx hb hK hP c0 0 ((WD_get hc).trans (by rw [hE])) rfl h1 hd ?_
  rw [h2]
  exact kk H locs ls hP hD hS hl

theorem g_iast {g : Gx} {K : Kx} {cc : ByteArray} {own : String} {n fr lo : Nat} {nC : Nat} {E : Nat → (Nat → Int) → va_E} {q : Nat → Nat} {σ : Nat → Nat → Int} {pc : Nat} {lv : List (Nat × Value)} {rest : List Value} (C : CX g K cc own n fr lo) (c0 j : Nat) {len : Nat} {z x : Int} (hc : c0 < nC) (hE : ∀ f : Nat → Int, E c0 f = .inl (g.2.2.1, len, .inl (fun j => iZ (f j)))) (hz : z = (j : Int)) (hj : j < len) (hlen : len ≤ 1000) (hd : decode cc pc = .ok (.iastore, 1)) (kk : GJ g K (WD nC E q (up σ c0 j x)) (pc + 1) lv rest) : GJ g K (WD nC E q σ) pc lv (.int (iZ x) :: .int (iZ z) :: .ref (q c0) :: rest) := by
  obtain ⟨p, e, R, s, m, args, below, meth, c, A, Q, nL⟩ := K
  obtain ⟨hx, hb, hml, hown, hts, hK, hlk, hA, hfr, hlo, hN, hn⟩ := C
  intro H locs ls hP hD hS hl
  obtain ⟨h1, h2⟩ := iZ_in hz hj hlen
  refine va_iast hx hb hK hP hD hS c0 0 ((WD_get hc).trans (by rw [hE])) rfl h1 hd ?_
  rw [h2]
  intro H1 locs1 hP1 hD1 hS1
  have e9 : (WD nC E q σ).set c0 (q c0, .inl (g.2.2.1, len, .inl (upd (fun j => iZ (σ c0 j)) j (iZ x)))) = WD nC E q (up σ c0 j x) := by
    show _ = WD nC E q (upf σ c0 (updI (σ c0) j x))
    rw [← WD_set, hE]
    congr 6
    funext i
    simp only [upd, updI]
    split <;> rfl
  rw [e9] at hP1 hD1
  exact kk H1 locs1 ls hP1 hD1 hS1 hl

theorem g_lald {g : Gx} {K : Kx} {cc : ByteArray} {own : String} {n fr lo : Nat} {nC : Nat} {E : Nat → (Nat → Int) → va_E} {q : Nat → Nat} {σ : Nat → Nat → Int} {pc : Nat} {lv : List (Nat × Value)} {rest : List Value} (C : CX g K cc own n fr lo) (c0 j : Nat) {len : Nat} {z : Int} (hc : c0 < nC) (hE : ∀ f : Nat → Int, E c0 f = .inl (g.2.2.2.1, len, .inr (.inl (fun j => lZ (f j))))) (hz : z = (j : Int)) (hj : j < len) (hlen : len ≤ 1000) (hd : decode cc pc = .ok (.laload, 1)) (kk : GJ g K (WD nC E q σ) (pc + 1) lv (.long (lZ (σ c0 j)) :: rest)) : GJ g K (WD nC E q σ) pc lv (.int (iZ z) :: .ref (q c0) :: rest) := by
  obtain ⟨p, e, R, s, m, args, below, meth, c, A, Q, nL⟩ := K
  obtain ⟨hx, hb, hml, hown, hts, hK, hlk, hA, hfr, hlo, hN, hn⟩ := C
  intro H locs ls hP hD hS hl
  obtain ⟨h1, h2⟩ := iZ_in hz hj hlen
  refine va_lald hx hb hK hP c0 1 ((WD_get hc).trans (by rw [hE])) rfl h1 hd ?_
  rw [h2]
  exact kk H locs ls hP hD hS hl

theorem g_last {g : Gx} {K : Kx} {cc : ByteArray} {own : String} {n fr lo : Nat} {nC : Nat} {E : Nat → (Nat → Int) → va_E} {q : Nat → Nat} {σ : Nat → Nat → Int} {pc : Nat} {lv : List (Nat × Value)} {rest : List Value} (C : CX g K cc own n fr lo) (c0 j : Nat) {len : Nat} {z x : Int} (hc : c0 < nC) (hE : ∀ f : Nat → Int, E c0 f = .inl (g.2.2.2.1, len, .inr (.inl (fun j => lZ (f j))))) (hz : z = (j : Int)) (hj : j < len) (hlen : len ≤ 1000) (hd : decode cc pc = .ok (.lastore, 1)) (kk : GJ g K (WD nC E q (up σ c0 j x)) (pc + 1) lv rest) : GJ g K (WD nC E q σ) pc lv (.long (lZ x) :: .int (iZ z) :: .ref (q c0) :: rest) := by
  obtain ⟨p, e, R, s, m, args, below, meth, c, A, Q, nL⟩ := K
  obtain ⟨hx, hb, hml, hown, hts, hK, hlk, hA, hfr, hlo, hN, hn⟩ := C
  intro H locs ls hP hD hS hl
  obtain ⟨h1, h2⟩ := iZ_in hz hj hlen
  refine va_last hx hb hK hP hD hS c0 1 ((WD_get hc).trans (by rw [hE])) rfl h1 hd ?_
  rw [h2]
  intro H1 locs1 hP1 hD1 hS1
  have e9 : (WD nC E q σ).set c0 (q c0, .inl (g.2.2.2.1, len, .inr (.inl (vp_updL (fun j => lZ (σ c0 j)) j (lZ x))))) = WD nC E q (up σ c0 j x) := by
    show _ = WD nC E q (upf σ c0 (updI (σ c0) j x))
    rw [← WD_set, hE]
    congr 7
    funext i
    simp only [vp_updL, updI]
    split <;> rfl
  rw [e9] at hP1 hD1
  exact kk H1 locs1 ls hP1 hD1 hS1 hl

theorem cats {m : MethodId} {pc : Nat} {ls : Array Slot} {st0 rest : List Value} (h : (rest.map fun v => v.category).sum ≤ 8) : 2 * (F0 m pc ls st0).monitorRoom + (rest.map fun v => v.category).sum ≤ 8 := lv_room h
/-- a call of an instance method whose world is the caller's own -/
theorem g_call {g : Gx} {K : Kx} {cc : ByteArray} {own : String} {n fr lo : Nat} {ws : va_W} {pc : Nat} {lv : List (Nat × Value)} {rest : List Value} (C : CX g K cc own n fr lo) {S : Type} {y : MethodName} {cc' : ByteArray} {maxL' fr' lo' : Nat} {ret' : Option FieldType} {b idx N : Nat} {as st : List Value} {Wf : S → va_W} {post : Option Value → S → Prop} {C0 : String} {T0 : u_T} {fs : List Value}
    (M : MC g y cc' maxL' ret' fr' lo' ws (.ref b :: as) Wf post) (hG : GoodIn BIG (wsV own idx C0 y (Cond.code y cc' maxL' ret' :: BIG))) (hd0 : y.cls = C0 ∧ y.cls ≠ "java/lang/invoke/MethodHandle" ∧ y.cls ≠ "java/lang/invoke/VarHandle" ∧ (parseMethodDescriptor y.desc).map (fun d => d.parameters.length) = some as.length) (hr : fr' + 1 ≤ fr ∧ 8 + (maxL' + 11) + lo' ≤ lo) (q0 ci : Nat) (he : ws[q0]? = some (b, .inr (ci, fs))) (hc : vwCl[ci]? = some (C0, T0, N)) (hst : st = as.reverse ++ .ref b :: rest) (hW : (rest.map fun v => v.category).sum ≤ 8) (hd : decode cc pc = .ok (.invokevirtual idx, 3))
    (k : ∀ (v : Option Value) (u : S), post v u → GJ g K (Wf u) (pc + 3) lv (v.toList ++ rest)) : GJ g K ws pc lv st := by
  obtain ⟨p, e, R, s, m, args, below, meth, c, A, Q, nL⟩ := K
  obtain ⟨hx, hb, hml, hown, hts, hK, hlk, hA, hfr, hlo, hN, hn⟩ := C
  intro H locs ls hP hD hS hl
  subst hfr; subst hlo
  have hF : ∀ q, va_A ws H.size q → A q := by
    rintro q (⟨k, e, h⟩ | h)
    · exact hD.2 k (q, e) h
    · exact hA q (Nat.le_trans hS.1 h)
  refine w_call (va_runV (As := as) (rest := rest) ⟨hx, hb, hml, hown, hts⟩ (M H.size) (cwV as.length hts hG rfl rfl rfl hd0 hr) ⟨blind_MC, va_recv hK hP hc he, fun U hU hW => ⟨rfl, by rw [hU], by rw [hU]; exact hP, va_K.moved hW.alike hK, hD.weaken (fun _ _ _ _ => trivial), hN.warm hW⟩⟩ rfl rfl hl.1 hst (cats hW) hd ⟨Nat.zero_le _, Nat.zero_le _⟩) hS (fun q _ h => hF q h) hF (fun v u H1 locs1 hp hP1 hD1 hz1 hk1 hS1 => ?_)
  exact k v u hp H1 locs1 ls hP1 (hD1.weaken (fun _ _ _ h => hF _ h)) hS1 hl
theorem kept_all {g : Gx} {ws : va_W} {H H1 : Heap} (hP : va_P g.2.1 vwCl ws H) (hk : ∀ q : Nat, q < H.size → ¬ va_A [] H.size q → H1[q]? = H[q]?) : va_P g.2.1 vwCl ws H1 :=
  va_P.kept hP (fun k q hq => hk q.1 (hP k q hq).lt (fun h => by
    rcases h with ⟨i, e, h⟩ | h
    · simp at h
    · exact absurd (hP k q hq).lt (Nat.not_lt.mpr h)))
/-- a call of a static method that touches no cell -/
theorem g_callS {g : Gx} {K : Kx} {cc : ByteArray} {own : String} {n fr lo : Nat} {ws : va_W} {pc : Nat} {lv : List (Nat × Value)} {rest : List Value} (C : CX g K cc own n fr lo) {y : MethodName} {cc' : ByteArray} {maxL' fr' lo' : Nat} {ret' : Option FieldType} {idx : Nat} {as st : List Value} {post : Option Value → Unit → Prop}
    (M : MC g y cc' maxL' ret' fr' lo' [] as (fun _ : Unit => []) post) (hG : GoodIn BIG (wsS own idx y (Cond.code y cc' maxL' ret' :: BIG))) (hd0 : y.cls = own ∧ y.cls ≠ "java/lang/invoke/MethodHandle" ∧ y.cls ≠ "java/lang/invoke/VarHandle" ∧ (parseMethodDescriptor y.desc).map (fun d => d.parameters.length) = some as.length) (hr : fr' + 1 ≤ fr ∧ 8 + (maxL' + 11) + lo' ≤ lo) (hst : st = as.reverse ++ rest) (hW : (rest.map fun v => v.category).sum ≤ 8) (hd : decode cc pc = .ok (.invokestatic idx, 3))
    (k : ∀ v : Option Value, post v () → GJ g K ws (pc + 3) lv (v.toList ++ rest)) : GJ g K ws pc lv st := by
  obtain ⟨p, e, R, s, m, args, below, meth, c, A, Q, nL⟩ := K
  obtain ⟨hx, hb, hml, hown, hts, hK, hlk, hA, hfr, hlo, hN, hn⟩ := C
  intro H locs ls hP hD hS hl
  subst hfr; subst hlo
  have hF : ∀ q, va_A [] H.size q → A q := by
    rintro q (⟨k, e, h⟩ | h)
    · simp at h
    · exact hA q (Nat.le_trans hS.1 h)
  refine w_call (va_runS (As := as) (rest := rest) ⟨hx, hb, hml, hown, hts⟩ (M H.size) (cwS as.length hts hG rfl rfl rfl hd0 hr) ⟨blind_MC, fun U hU hW => ⟨rfl, by rw [hU], fun k q h => by simp at h, va_K.moved hW.alike hK, ⟨fun i j p q h => by simp at h, fun k q h => by simp at h⟩, hN.warm hW⟩⟩ rfl rfl hl.1 hst (cats hW) hd ⟨Nat.zero_le _, Nat.zero_le _⟩) hS (fun q _ h => hF q h) hF (fun v u H1 locs1 hp hP1 hD1 hz1 hk1 hS1 => ?_)
  exact k v hp H1 locs1 ls (kept_all hP hk1) hD hS1 hl
/-- Math.abs of a long -/
theorem g_labs {g : Gx} {K : Kx} {cc : ByteArray} {own : String} {n fr lo : Nat} {ws : va_W} {pc : Nat} {lv : List (Nat × Value)} {rest : List Value} {z : Int} {idx : Nat} (C : CX g K cc own n fr lo) (h1 : Cond.methodLink own idx Lib.MathLoose.abs_long.x ∈ BIG) (hfr9 : 1 ≤ fr) (hlo9 : (rest.map fun v => v.category).sum + 13 ≤ lo) (hz : I64 z) (hd : decode cc pc = .ok (.invokestatic idx, 3)) (k : GJ g K ws (pc + 3) lv (.long (lZ (if 0 < z then z else -z)) :: rest)) : GJ g K ws pc lv (.long (lZ z) :: rest) := by
  obtain ⟨p, e, R, s, m, args, below, meth, c, A, Q, nL⟩ := K
  obtain ⟨hx, hb, hml, hown, hts, hK, hlk, hA, hfr, hlo, hN, hn⟩ := C
  intro H locs ls hP hD hS hl
  subst hfr; subst hlo
  refine va_mabs_long hx hb (hml.trans hl.1.symm) hown (hts _ h1) (hts _ in_absS) (hts _ in_absI) (hts _ in_absC) hfr9 hlo9 (Nat.zero_le _) (Nat.zero_le _) hd ?_
  have e9 : (if 0 < lZ z then lZ z else -lZ z) = lZ (if 0 < z then z else -z) := by
    by_cases h : 0 < z
    · rw [if_pos h, if_pos (show (0 : Int64) < lZ z from (lZ_lt I64_0 hz).mpr h)]
    · rw [if_neg h, if_neg (show ¬ (0 : Int64) < lZ z from fun q => h ((lZ_lt I64_0 hz).mp q)), lZ_neg]
  rw [e9]
  exact k H locs ls hP hD hS hl

theorem g_iname {g : Gx} {K : Kx} {ws : va_W} {pc : Nat} {lv : List (Nat × Value)} {rest : List Value} {z : Int} (k : ∀ x : Int, x = z → GJ g K ws pc lv (.int (iZ x) :: rest)) : GJ g K ws pc lv (.int (iZ z) :: rest) := k z rfl
theorem g_lname {g : Gx} {K : Kx} {ws : va_W} {pc : Nat} {lv : List (Nat × Value)} {rest : List Value} {z : Int} (k : ∀ x : Int, x = z → GJ g K ws pc lv (.long (lZ x) :: rest)) : GJ g K ws pc lv (.long (lZ z) :: rest) := k z rfl
theorem g_callI {g : Gx} {K : Kx} {cc : ByteArray} {own : String} {n fr lo : Nat} {ws : va_W} {pc : Nat} {lv : List (Nat × Value)} {rest : List Value} (C : CX g K cc own n fr lo) {S : Type} {y : MethodName} {cc' : ByteArray} {maxL' fr' lo' : Nat} {ret' : Option FieldType} {b idx N : Nat} {as st : List Value} {Wf : S → va_W} {P : Int → S → Prop} {C0 : String} {T0 : u_T} {fs : List Value}
    (M : MC g y cc' maxL' ret' fr' lo' ws (.ref b :: as) Wf (pI P)) (hG : GoodIn BIG (wsV own idx C0 y (Cond.code y cc' maxL' ret' :: BIG))) (hd0 : y.cls = C0 ∧ y.cls ≠ "java/lang/invoke/MethodHandle" ∧ y.cls ≠ "java/lang/invoke/VarHandle" ∧ (parseMethodDescriptor y.desc).map (fun d => d.parameters.length) = some as.length) (hr : fr' + 1 ≤ fr ∧ 8 + (maxL' + 11) + lo' ≤ lo) (q0 ci : Nat) (he : ws[q0]? = some (b, .inr (ci, fs))) (hc : vwCl[ci]? = some (C0, T0, N)) (hst : st = as.reverse ++ .ref b :: rest) (hW : (rest.map fun v => v.category).sum ≤ 8) (hd : decode cc pc = .ok (.invokevirtual idx, 3))
    (k : ∀ (z : Int) (u : S), P z u → GJ g K (Wf u) (pc + 3) lv (.int (iZ z) :: rest)) : GJ g K ws pc lv st := g_call C M hG hd0 hr q0 ci he hc hst hW hd (fun v u h => by
      obtain ⟨z, rfl, h⟩ := h
      exact k z u h)
theorem g_callL {g : Gx} {K : Kx} {cc : ByteArray} {own : String} {n fr lo : Nat} {ws : va_W} {pc : Nat} {lv : List (Nat × Value)} {rest : List Value} (C : CX g K cc own n fr lo) {S : Type} {y : MethodName} {cc' : ByteArray} {maxL' fr' lo' : Nat} {ret' : Option FieldType} {b idx N : Nat} {as st : List Value} {Wf : S → va_W} {P : Int → S → Prop} {C0 : String} {T0 : u_T} {fs : List Value}
    (M : MC g y cc' maxL' ret' fr' lo' ws (.ref b :: as) Wf (pL P)) (hG : GoodIn BIG (wsV own idx C0 y (Cond.code y cc' maxL' ret' :: BIG))) (hd0 : y.cls = C0 ∧ y.cls ≠ "java/lang/invoke/MethodHandle" ∧ y.cls ≠ "java/lang/invoke/VarHandle" ∧ (parseMethodDescriptor y.desc).map (fun d => d.parameters.length) = some as.length) (hr : fr' + 1 ≤ fr ∧ 8 + (maxL' + 11) + lo' ≤ lo) (q0 ci : Nat) (he : ws[q0]? = some (b, .inr (ci, fs))) (hc : vwCl[ci]? = some (C0, T0, N)) (hst : st = as.reverse ++ .ref b :: rest) (hW : (rest.map fun v => v.category).sum ≤ 8) (hd : decode cc pc = .ok (.invokevirtual idx, 3))
    (k : ∀ (z : Int) (u : S), P z u → GJ g K (Wf u) (pc + 3) lv (.long (lZ z) :: rest)) : GJ g K ws pc lv st := g_call C M hG hd0 hr q0 ci he hc hst hW hd (fun v u h => by
      obtain ⟨z, rfl, h⟩ := h
      exact k z u h)
theorem g_callV {g : Gx} {K : Kx} {cc : ByteArray} {own : String} {n fr lo : Nat} {ws : va_W} {pc : Nat} {lv : List (Nat × Value)} {rest : List Value} (C : CX g K cc own n fr lo) {S : Type} {y : MethodName} {cc' : ByteArray} {maxL' fr' lo' : Nat} {ret' : Option FieldType} {b idx N : Nat} {as st : List Value} {Wf : S → va_W} {P : S → Prop} {C0 : String} {T0 : u_T} {fs : List Value}
    (M : MC g y cc' maxL' ret' fr' lo' ws (.ref b :: as) Wf (pV P)) (hG : GoodIn BIG (wsV own idx C0 y (Cond.code y cc' maxL' ret' :: BIG))) (hd0 : y.cls = C0 ∧ y.cls ≠ "java/lang/invoke/MethodHandle" ∧ y.cls ≠ "java/lang/invoke/VarHandle" ∧ (parseMethodDescriptor y.desc).map (fun d => d.parameters.length) = some as.length) (hr : fr' + 1 ≤ fr ∧ 8 + (maxL' + 11) + lo' ≤ lo) (q0 ci : Nat) (he : ws[q0]? = some (b, .inr (ci, fs))) (hc : vwCl[ci]? = some (C0, T0, N)) (hst : st = as.reverse ++ .ref b :: rest) (hW : (rest.map fun v => v.category).sum ≤ 8) (hd : decode cc pc = .ok (.invokevirtual idx, 3))
    (k : ∀ u : S, P u → GJ g K (Wf u) (pc + 3) lv rest) : GJ g K ws pc lv st := g_call C M hG hd0 hr q0 ci he hc hst hW hd (fun v u h => by
      obtain ⟨rfl, h⟩ := h
      exact k u h)
theorem g_callSI {g : Gx} {K : Kx} {cc : ByteArray} {own : String} {n fr lo : Nat} {ws : va_W} {pc : Nat} {lv : List (Nat × Value)} {rest : List Value} (C : CX g K cc own n fr lo) {y : MethodName} {cc' : ByteArray} {maxL' fr' lo' : Nat} {ret' : Option FieldType} {idx : Nat} {as st : List Value} {P : Int → Unit → Prop}
    (M : MC g y cc' maxL' ret' fr' lo' [] as (fun _ : Unit => []) (pI P)) (hG : GoodIn BIG (wsS own idx y (Cond.code y cc' maxL' ret' :: BIG))) (hd0 : y.cls = own ∧ y.cls ≠ "java/lang/invoke/MethodHandle" ∧ y.cls ≠ "java/lang/invoke/VarHandle" ∧ (parseMethodDescriptor y.desc).map (fun d => d.parameters.length) = some as.length) (hr : fr' + 1 ≤ fr ∧ 8 + (maxL' + 11) + lo' ≤ lo) (hst : st = as.reverse ++ rest) (hW : (rest.map fun v => v.category).sum ≤ 8) (hd : decode cc pc = .ok (.invokestatic idx, 3))
    (k : ∀ z : Int, P z () → GJ g K ws (pc + 3) lv (.int (iZ z) :: rest)) : GJ g K ws pc lv st := g_callS C M hG hd0 hr hst hW hd (fun v h => by
      obtain ⟨z, rfl, h⟩ := h
      exact k z h)
theorem g_callSL {g : Gx} {K : Kx} {cc : ByteArray} {own : String} {n fr lo : Nat} {ws : va_W} {pc : Nat} {lv : List (Nat × Value)} {rest : List Value} (C : CX g K cc own n fr lo) {y : MethodName} {cc' : ByteArray} {maxL' fr' lo' : Nat} {ret' : Option FieldType} {idx : Nat} {as st : List Value} {P : Int → Unit → Prop}
    (M : MC g y cc' maxL' ret' fr' lo' [] as (fun _ : Unit => []) (pL P)) (hG : GoodIn BIG (wsS own idx y (Cond.code y cc' maxL' ret' :: BIG))) (hd0 : y.cls = own ∧ y.cls ≠ "java/lang/invoke/MethodHandle" ∧ y.cls ≠ "java/lang/invoke/VarHandle" ∧ (parseMethodDescriptor y.desc).map (fun d => d.parameters.length) = some as.length) (hr : fr' + 1 ≤ fr ∧ 8 + (maxL' + 11) + lo' ≤ lo) (hst : st = as.reverse ++ rest) (hW : (rest.map fun v => v.category).sum ≤ 8) (hd : decode cc pc = .ok (.invokestatic idx, 3))
    (k : ∀ z : Int, P z () → GJ g K ws (pc + 3) lv (.long (lZ z) :: rest)) : GJ g K ws pc lv st := g_callS C M hG hd0 hr hst hW hd (fun v h => by
      obtain ⟨z, rfl, h⟩ := h
      exact k z h)
end
section
def EM (g : Gx) (q : Nat → Nat) (c : Nat) (f : Nat → Int) : va_E := match c with
  | 0 => .inr (7, [.int (iZ (f 0)), .ref (q 1), .ref (q 2), .ref (q 3), .ref (q 4), .ref (q 5), .ref (q 6), .ref (q 7), .ref (q 8), .int (iZ (f 9)), .ref (q 9), .long (lZ (f 11)), .int (iZ (f 12)), .ref (q 10), .long (lZ (f 14)), .long (lZ (f 15)), .long (lZ (f 16)), .int (iZ (f 17)), .ref (q 11), .long (lZ (f 19)), .long (lZ (f 20)), .ref (q 12)])
  | 1 => .inl (g.2.2.1, 7, .inl (fun j => iZ (f j)))
  | 2 => .inl (g.2.2.1, 7, .inl (fun j => iZ (f j)))
  | 3 => .inl (g.2.2.1, 7, .inl (fun j => iZ (f j)))
  | 4 => .inl (g.2.2.1, 7, .inl (fun j => iZ (f j)))
  | 5 => .inl (g.2.2.1, 4, .inl (fun j => iZ (f j)))
  | 6 => .inl (g.2.2.1, 4, .inl (fun j => iZ (f j)))
  | 7 => .inl (g.2.2.1, 112, .inl (fun j => iZ (f j)))
  | 8 => .inl (g.2.2.2.1, 80, .inr (.inl (fun j => lZ (f j))))
  | 9 => .inl (g.2.2.2.1, 4, .inr (.inl (fun j => lZ (f j))))
  | 10 => .inl (g.2.2.2.1, 3, .inr (.inl (fun j => lZ (f j))))
  | 11 => .inl (g.2.2.1, 4, .inl (fun j => iZ (f j)))
  | _ => .inl (g.2.2.1, 7, .inl (fun j => iZ (f j)))
abbrev WM (g : Gx) (q : Nat → Nat) (σ : Nat → Nat → Int) : va_W := WD 13 (EM g q) q σ
def EC (g : Gx) (q : Nat → Nat) (c : Nat) (f : Nat → Int) : va_E := match c with
  | 0 => .inr (6, [.ref (q 1), .ref (q 7), .ref (q 11), .ref (q 12), .ref (q 14), .ref (q 23), .ref (q 24), .ref (q 25)])
  | 1 => .inr (0, [.int (iZ (f 0)), .ref (q 2), .ref (q 3), .ref (q 4), .ref (q 5), .ref (q 6)])
  | 2 => .inl (g.2.2.1, 7, .inl (fun j => iZ (f j)))
  | 3 => .inl (g.2.2.1, 7, .inl (fun j => iZ (f j)))
  | 4 => .inl (g.2.2.1, 7, .inl (fun j => iZ (f j)))
  | 5 => .inl (g.2.2.1, 7, .inl (fun j => iZ (f j)))
  | 6 => .inl (g.2.2.1, 7, .inl (fun j => iZ (f j)))
  | 7 => .inr (5, [.ref (q 1), .int (iZ (f 1)), .ref (q 8), .ref (q 9), .ref (q 10)])
  | 8 => .inl (g.2.2.2.1, 36, .inr (.inl (fun j => lZ (f j))))
  | 9 => .inl (g.2.2.2.1, 36, .inr (.inl (fun j => lZ (f j))))
  | 10 => .inl (g.2.2.2.1, 36, .inr (.inl (fun j => lZ (f j))))
  | 11 => .inr (3, [.ref (q 1), .long (lZ (f 1)), .long (lZ (f 2)), .long (lZ (f 3)), .long (lZ (f 4)), .long (lZ (f 5)), .long (lZ (f 6))])
  | 12 => .inr (1, [.ref (q 1), .int (iZ (f 1)), .ref (q 13)])
  | 13 => .inl (g.2.2.1, 4, .inl (fun j => iZ (f j)))
  | 14 => .inl (g.2.2.2.2, 4, .inr (.inr (.inr (.inr (fun j => some (q (15 + j)))))))
  | 15 => .inr (4, [.int (iZ (f 0)), .int (iZ (f 1)), .int (iZ (f 2)), .ref (q 19)])
  | 16 => .inr (4, [.int (iZ (f 0)), .int (iZ (f 1)), .int (iZ (f 2)), .ref (q 20)])
  | 17 => .inr (4, [.int (iZ (f 0)), .int (iZ (f 1)), .int (iZ (f 2)), .ref (q 21)])
  | 18 => .inr (4, [.int (iZ (f 0)), .int (iZ (f 1)), .int (iZ (f 2)), .ref (q 22)])
  | 19 => .inl (g.2.2.1, 28, .inl (fun j => iZ (f j)))
  | 20 => .inl (g.2.2.1, 28, .inl (fun j => iZ (f j)))
  | 21 => .inl (g.2.2.1, 28, .inl (fun j => iZ (f j)))
  | 22 => .inl (g.2.2.1, 28, .inl (fun j => iZ (f j)))
  | 23 => .inl (g.2.2.1, 7, .inl (fun j => iZ (f j)))
  | 24 => .inr (2, [.long (lZ (f 0)), .long (lZ (f 1))])
  | _ => .inr (2, [.long (lZ (f 0)), .long (lZ (f 1))])
abbrev WC (g : Gx) (q : Nat → Nat) (σ : Nat → Nat → Int) : va_W := WD 26 (EC g q) q σ
theorem EC_sheet {g : Gx} {q : Nat → Nat} {c : Nat} (h : 15 ≤ c ∧ c < 19) (f : Nat → Int) : EC g q c f = .inr (4, [.int (iZ (f 0)), .int (iZ (f 1)), .int (iZ (f 2)), .ref (q (c + 4))]) := by
  have h1 : c = 15 ∨ c = 16 ∨ c = 17 ∨ c = 18 := by omega
  rcases h1 with rfl | rfl | rfl | rfl <;> rfl
theorem EC_items {g : Gx} {q : Nat → Nat} {c : Nat} (h : 19 ≤ c ∧ c < 23) (f : Nat → Int) : EC g q c f = .inl (g.2.2.1, 28, .inl (fun j => iZ (f j))) := by
  have h1 : c = 19 ∨ c = 20 ∨ c = 21 ∨ c = 22 := by omega
  rcases h1 with rfl | rfl | rfl | rfl <;> rfl
theorem EC_frac {g : Gx} {q : Nat → Nat} {c : Nat} (h : c = 24 ∨ c = 25) (f : Nat → Int) : EC g q c f = .inr (2, [.long (lZ (f 0)), .long (lZ (f 1))]) := by
  rcases h with rfl | rfl <;> rfl
theorem gf_X6_12 {g : Gx} {K : Kx} {cc : ByteArray} {n fr lo : Nat} {q : Nat → Nat} {σ : Nat → Nat → Int} {pc : Nat} {lv : List (Nat × Value)} {rest : List Value} (C : CX g K cc RX6 n fr lo) (hd : decode cc pc = .ok (.getfield 12, 3)) (kk : GJ g K (WC g q σ) (pc + 3) lv (.ref (q 1) :: rest)) : GJ g K (WC g q σ) pc lv (.ref (q 0) :: rest) :=
  g_get (fs := [.ref (q 1), .ref (q 7), .ref (q 11), .ref (q 12), .ref (q 14), .ref (q 23), .ref (q 24), .ref (q 25)]) C 0 6 0 (WD_get (by decide)) rfl (by decide) inlX6 wf_X6_12 rfl hd kk
theorem gf_X6_21 {g : Gx} {K : Kx} {cc : ByteArray} {n fr lo : Nat} {q : Nat → Nat} {σ : Nat → Nat → Int} {pc : Nat} {lv : List (Nat × Value)} {rest : List Value} (C : CX g K cc RX6 n fr lo) (hd : decode cc pc = .ok (.getfield 21, 3)) (kk : GJ g K (WC g q σ) (pc + 3) lv (.ref (q 7) :: rest)) : GJ g K (WC g q σ) pc lv (.ref (q 0) :: rest) :=
  g_get (fs := [.ref (q 1), .ref (q 7), .ref (q 11), .ref (q 12), .ref (q 14), .ref (q 23), .ref (q 24), .ref (q 25)]) C 0 6 1 (WD_get (by decide)) rfl (by decide) inlX6 wf_X6_21 rfl hd kk
theorem gf_X6_28 {g : Gx} {K : Kx} {cc : ByteArray} {n fr lo : Nat} {q : Nat → Nat} {σ : Nat → Nat → Int} {pc : Nat} {lv : List (Nat × Value)} {rest : List Value} (C : CX g K cc RX6 n fr lo) (hd : decode cc pc = .ok (.getfield 28, 3)) (kk : GJ g K (WC g q σ) (pc + 3) lv (.ref (q 11) :: rest)) : GJ g K (WC g q σ) pc lv (.ref (q 0) :: rest) :=
  g_get (fs := [.ref (q 1), .ref (q 7), .ref (q 11), .ref (q 12), .ref (q 14), .ref (q 23), .ref (q 24), .ref (q 25)]) C 0 6 2 (WD_get (by decide)) rfl (by decide) inlX6 wf_X6_28 rfl hd kk
theorem gf_X6_35 {g : Gx} {K : Kx} {cc : ByteArray} {n fr lo : Nat} {q : Nat → Nat} {σ : Nat → Nat → Int} {pc : Nat} {lv : List (Nat × Value)} {rest : List Value} (C : CX g K cc RX6 n fr lo) (hd : decode cc pc = .ok (.getfield 35, 3)) (kk : GJ g K (WC g q σ) (pc + 3) lv (.ref (q 12) :: rest)) : GJ g K (WC g q σ) pc lv (.ref (q 0) :: rest) :=
  g_get (fs := [.ref (q 1), .ref (q 7), .ref (q 11), .ref (q 12), .ref (q 14), .ref (q 23), .ref (q 24), .ref (q 25)]) C 0 6 3 (WD_get (by decide)) rfl (by decide) inlX6 wf_X6_35 rfl hd kk
theorem gf_X6_41 {g : Gx} {K : Kx} {cc : ByteArray} {n fr lo : Nat} {q : Nat → Nat} {σ : Nat → Nat → Int} {pc : Nat} {lv : List (Nat × Value)} {rest : List Value} (C : CX g K cc RX6 n fr lo) (hd : decode cc pc = .ok (.getfield 41, 3)) (kk : GJ g K (WC g q σ) (pc + 3) lv (.ref (q 14) :: rest)) : GJ g K (WC g q σ) pc lv (.ref (q 0) :: rest) :=
  g_get (fs := [.ref (q 1), .ref (q 7), .ref (q 11), .ref (q 12), .ref (q 14), .ref (q 23), .ref (q 24), .ref (q 25)]) C 0 6 4 (WD_get (by decide)) rfl (by decide) inlX6 wf_X6_41 rfl hd kk
theorem gf_X6_45 {g : Gx} {K : Kx} {cc : ByteArray} {n fr lo : Nat} {q : Nat → Nat} {σ : Nat → Nat → Int} {pc : Nat} {lv : List (Nat × Value)} {rest : List Value} (C : CX g K cc RX6 n fr lo) (hd : decode cc pc = .ok (.getfield 45, 3)) (kk : GJ g K (WC g q σ) (pc + 3) lv (.ref (q 23) :: rest)) : GJ g K (WC g q σ) pc lv (.ref (q 0) :: rest) :=
  g_get (fs := [.ref (q 1), .ref (q 7), .ref (q 11), .ref (q 12), .ref (q 14), .ref (q 23), .ref (q 24), .ref (q 25)]) C 0 6 5 (WD_get (by decide)) rfl (by decide) inlX6 wf_X6_45 rfl hd kk
theorem gf_X6_52 {g : Gx} {K : Kx} {cc : ByteArray} {n fr lo : Nat} {q : Nat → Nat} {σ : Nat → Nat → Int} {pc : Nat} {lv : List (Nat × Value)} {rest : List Value} (C : CX g K cc RX6 n fr lo) (hd : decode cc pc = .ok (.getfield 52, 3)) (kk : GJ g K (WC g q σ) (pc + 3) lv (.ref (q 24) :: rest)) : GJ g K (WC g q σ) pc lv (.ref (q 0) :: rest) :=
  g_get (fs := [.ref (q 1), .ref (q 7), .ref (q 11), .ref (q 12), .ref (q 14), .ref (q 23), .ref (q 24), .ref (q 25)]) C 0 6 6 (WD_get (by decide)) rfl (by decide) inlX6 wf_X6_52 rfl hd kk
theorem gf_X6_56 {g : Gx} {K : Kx} {cc : ByteArray} {n fr lo : Nat} {q : Nat → Nat} {σ : Nat → Nat → Int} {pc : Nat} {lv : List (Nat × Value)} {rest : List Value} (C : CX g K cc RX6 n fr lo) (hd : decode cc pc = .ok (.getfield 56, 3)) (kk : GJ g K (WC g q σ) (pc + 3) lv (.ref (q 25) :: rest)) : GJ g K (WC g q σ) pc lv (.ref (q 0) :: rest) :=
  g_get (fs := [.ref (q 1), .ref (q 7), .ref (q 11), .ref (q 12), .ref (q 14), .ref (q 23), .ref (q 24), .ref (q 25)]) C 0 6 7 (WD_get (by decide)) rfl (by decide) inlX6 wf_X6_56 rfl hd kk
theorem gf_X0_9 {g : Gx} {K : Kx} {cc : ByteArray} {n fr lo : Nat} {q : Nat → Nat} {σ : Nat → Nat → Int} {pc : Nat} {lv : List (Nat × Value)} {rest : List Value} (C : CX g K cc RX0 n fr lo) (hd : decode cc pc = .ok (.getfield 9, 3)) (kk : GJ g K (WC g q σ) (pc + 3) lv (.ref (q 2) :: rest)) : GJ g K (WC g q σ) pc lv (.ref (q 1) :: rest) :=
  g_get (fs := [.int (iZ ((σ 1) 0)), .ref (q 2), .ref (q 3), .ref (q 4), .ref (q 5), .ref (q 6)]) C 1 0 1 (WD_get (by decide)) rfl (by decide) inlX0 wf_X0_9 rfl hd kk
theorem gf_X0_15 {g : Gx} {K : Kx} {cc : ByteArray} {n fr lo : Nat} {q : Nat → Nat} {σ : Nat → Nat → Int} {pc : Nat} {lv : List (Nat × Value)} {rest : List Value} (C : CX g K cc RX0 n fr lo) (hd : decode cc pc = .ok (.getfield 15, 3)) (kk : GJ g K (WC g q σ) (pc + 3) lv (.ref (q 3) :: rest)) : GJ g K (WC g q σ) pc lv (.ref (q 1) :: rest) :=
  g_get (fs := [.int (iZ ((σ 1) 0)), .ref (q 2), .ref (q 3), .ref (q 4), .ref (q 5), .ref (q 6)]) C 1 0 2 (WD_get (by decide)) rfl (by decide) inlX0 wf_X0_15 rfl hd kk
theorem gf_X0_18 {g : Gx} {K : Kx} {cc : ByteArray} {n fr lo : Nat} {q : Nat → Nat} {σ : Nat → Nat → Int} {pc : Nat} {lv : List (Nat × Value)} {rest : List Value} (C : CX g K cc RX0 n fr lo) (hd : decode cc pc = .ok (.getfield 18, 3)) (kk : GJ g K (WC g q σ) (pc + 3) lv (.ref (q 4) :: rest)) : GJ g K (WC g q σ) pc lv (.ref (q 1) :: rest) :=
  g_get (fs := [.int (iZ ((σ 1) 0)), .ref (q 2), .ref (q 3), .ref (q 4), .ref (q 5), .ref (q 6)]) C 1 0 3 (WD_get (by decide)) rfl (by decide) inlX0 wf_X0_18 rfl hd kk
theorem gf_X0_21 {g : Gx} {K : Kx} {cc : ByteArray} {n fr lo : Nat} {q : Nat → Nat} {σ : Nat → Nat → Int} {pc : Nat} {lv : List (Nat × Value)} {rest : List Value} (C : CX g K cc RX0 n fr lo) (hd : decode cc pc = .ok (.getfield 21, 3)) (kk : GJ g K (WC g q σ) (pc + 3) lv (.ref (q 5) :: rest)) : GJ g K (WC g q σ) pc lv (.ref (q 1) :: rest) :=
  g_get (fs := [.int (iZ ((σ 1) 0)), .ref (q 2), .ref (q 3), .ref (q 4), .ref (q 5), .ref (q 6)]) C 1 0 4 (WD_get (by decide)) rfl (by decide) inlX0 wf_X0_21 rfl hd kk
theorem gf_X0_24 {g : Gx} {K : Kx} {cc : ByteArray} {n fr lo : Nat} {q : Nat → Nat} {σ : Nat → Nat → Int} {pc : Nat} {lv : List (Nat × Value)} {rest : List Value} (C : CX g K cc RX0 n fr lo) (hd : decode cc pc = .ok (.getfield 24, 3)) (kk : GJ g K (WC g q σ) (pc + 3) lv (.ref (q 6) :: rest)) : GJ g K (WC g q σ) pc lv (.ref (q 1) :: rest) :=
  g_get (fs := [.int (iZ ((σ 1) 0)), .ref (q 2), .ref (q 3), .ref (q 4), .ref (q 5), .ref (q 6)]) C 1 0 5 (WD_get (by decide)) rfl (by decide) inlX0 wf_X0_24 rfl hd kk
theorem gf_X5_9 {g : Gx} {K : Kx} {cc : ByteArray} {n fr lo : Nat} {q : Nat → Nat} {σ : Nat → Nat → Int} {pc : Nat} {lv : List (Nat × Value)} {rest : List Value} (C : CX g K cc RX5 n fr lo) (hd : decode cc pc = .ok (.getfield 9, 3)) (kk : GJ g K (WC g q σ) (pc + 3) lv (.ref (q 8) :: rest)) : GJ g K (WC g q σ) pc lv (.ref (q 7) :: rest) :=
  g_get (fs := [.ref (q 1), .int (iZ ((σ 7) 1)), .ref (q 8), .ref (q 9), .ref (q 10)]) C 7 5 2 (WD_get (by decide)) rfl (by decide) inlX5 wf_X5_9 rfl hd kk
theorem gf_X5_13 {g : Gx} {K : Kx} {cc : ByteArray} {n fr lo : Nat} {q : Nat → Nat} {σ : Nat → Nat → Int} {pc : Nat} {lv : List (Nat × Value)} {rest : List Value} (C : CX g K cc RX5 n fr lo) (hd : decode cc pc = .ok (.getfield 13, 3)) (kk : GJ g K (WC g q σ) (pc + 3) lv (.ref (q 9) :: rest)) : GJ g K (WC g q σ) pc lv (.ref (q 7) :: rest) :=
  g_get (fs := [.ref (q 1), .int (iZ ((σ 7) 1)), .ref (q 8), .ref (q 9), .ref (q 10)]) C 7 5 3 (WD_get (by decide)) rfl (by decide) inlX5 wf_X5_13 rfl hd kk
theorem gf_X5_16 {g : Gx} {K : Kx} {cc : ByteArray} {n fr lo : Nat} {q : Nat → Nat} {σ : Nat → Nat → Int} {pc : Nat} {lv : List (Nat × Value)} {rest : List Value} (C : CX g K cc RX5 n fr lo) (hd : decode cc pc = .ok (.getfield 16, 3)) (kk : GJ g K (WC g q σ) (pc + 3) lv (.ref (q 10) :: rest)) : GJ g K (WC g q σ) pc lv (.ref (q 7) :: rest) :=
  g_get (fs := [.ref (q 1), .int (iZ ((σ 7) 1)), .ref (q 8), .ref (q 9), .ref (q 10)]) C 7 5 4 (WD_get (by decide)) rfl (by decide) inlX5 wf_X5_16 rfl hd kk
theorem gf_X5_19 {g : Gx} {K : Kx} {cc : ByteArray} {n fr lo : Nat} {q : Nat → Nat} {σ : Nat → Nat → Int} {pc : Nat} {lv : List (Nat × Value)} {rest : List Value} (C : CX g K cc RX5 n fr lo) (hd : decode cc pc = .ok (.getfield 19, 3)) (kk : GJ g K (WC g q σ) (pc + 3) lv (.ref (q 1) :: rest)) : GJ g K (WC g q σ) pc lv (.ref (q 7) :: rest) :=
  g_get (fs := [.ref (q 1), .int (iZ ((σ 7) 1)), .ref (q 8), .ref (q 9), .ref (q 10)]) C 7 5 0 (WD_get (by decide)) rfl (by decide) inlX5 wf_X5_19 rfl hd kk
theorem gf_X3_7 {g : Gx} {K : Kx} {cc : ByteArray} {n fr lo : Nat} {q : Nat → Nat} {σ : Nat → Nat → Int} {pc : Nat} {lv : List (Nat × Value)} {rest : List Value} (C : CX g K cc RX3 n fr lo) (hd : decode cc pc = .ok (.getfield 7, 3)) (kk : GJ g K (WC g q σ) (pc + 3) lv (.long (lZ (σ 11 2)) :: rest)) : GJ g K (WC g q σ) pc lv (.ref (q 11) :: rest) :=
  g_get (fs := [.ref (q 1), .long (lZ ((σ 11) 1)), .long (lZ ((σ 11) 2)), .long (lZ ((σ 11) 3)), .long (lZ ((σ 11) 4)), .long (lZ ((σ 11) 5)), .long (lZ ((σ 11) 6))]) C 11 3 2 (WD_get (by decide)) rfl (by decide) inlX3 wf_X3_7 rfl hd kk
theorem pf_X3_7 {g : Gx} {K : Kx} {cc : ByteArray} {n fr lo : Nat} {q : Nat → Nat} {σ : Nat → Nat → Int} {pc : Nat} {lv : List (Nat × Value)} {rest : List Value} {z : Int} (C : CX g K cc RX3 n fr lo) (hd : decode cc pc = .ok (.putfield 7, 3)) (kk : GJ g K (WC g q (up σ 11 2 z)) (pc + 3) lv rest) : GJ g K (WC g q σ) pc lv (.long (lZ z) :: .ref (q 11) :: rest) :=
  g_put (fs := [.ref (q 1), .long (lZ ((σ 11) 1)), .long (lZ ((σ 11) 2)), .long (lZ ((σ 11) 3)), .long (lZ ((σ 11) 4)), .long (lZ ((σ 11) 5)), .long (lZ ((σ 11) 6))]) C 11 3 2 tyX3 (WD_get (by decide)) rfl (by decide) inlX3 tyX3_ok nmX3 wf_X3_7 rfl rfl rfl (Nat.le_of_ble_eq_true rfl) (WD_set (updI (σ 11) 2 z)) hd kk
theorem gf_X3_13 {g : Gx} {K : Kx} {cc : ByteArray} {n fr lo : Nat} {q : Nat → Nat} {σ : Nat → Nat → Int} {pc : Nat} {lv : List (Nat × Value)} {rest : List Value} (C : CX g K cc RX3 n fr lo) (hd : decode cc pc = .ok (.getfield 13, 3)) (kk : GJ g K (WC g q σ) (pc + 3) lv (.long (lZ (σ 11 4)) :: rest)) : GJ g K (WC g q σ) pc lv (.ref (q 11) :: rest) :=
  g_get (fs := [.ref (q 1), .long (lZ ((σ 11) 1)), .long (lZ ((σ 11) 2)), .long (lZ ((σ 11) 3)), .long (lZ ((σ 11) 4)), .long (lZ ((σ 11) 5)), .long (lZ ((σ 11) 6))]) C 11 3 4 (WD_get (by decide)) rfl (by decide) inlX3 wf_X3_13 rfl hd kk
theorem pf_X3_13 {g : Gx} {K : Kx} {cc : ByteArray} {n fr lo : Nat} {q : Nat → Nat} {σ : Nat → Nat → Int} {pc : Nat} {lv : List (Nat × Value)} {rest : List Value} {z : Int} (C : CX g K cc RX3 n fr lo) (hd : decode cc pc = .ok (.putfield 13, 3)) (kk : GJ g K (WC g q (up σ 11 4 z)) (pc + 3) lv rest) : GJ g K (WC g q σ) pc lv (.long (lZ z) :: .ref (q 11) :: rest) :=
  g_put (fs := [.ref (q 1), .long (lZ ((σ 11) 1)), .long (lZ ((σ 11) 2)), .long (lZ ((σ 11) 3)), .long (lZ ((σ 11) 4)), .long (lZ ((σ 11) 5)), .long (lZ ((σ 11) 6))]) C 11 3 4 tyX3 (WD_get (by decide)) rfl (by decide) inlX3 tyX3_ok nmX3 wf_X3_13 rfl rfl rfl (Nat.le_of_ble_eq_true rfl) (WD_set (updI (σ 11) 4 z)) hd kk
theorem gf_X3_16 {g : Gx} {K : Kx} {cc : ByteArray} {n fr lo : Nat} {q : Nat → Nat} {σ : Nat → Nat → Int} {pc : Nat} {lv : List (Nat × Value)} {rest : List Value} (C : CX g K cc RX3 n fr lo) (hd : decode cc pc = .ok (.getfield 16, 3)) (kk : GJ g K (WC g q σ) (pc + 3) lv (.long (lZ (σ 11 6)) :: rest)) : GJ g K (WC g q σ) pc lv (.ref (q 11) :: rest) :=
  g_get (fs := [.ref (q 1), .long (lZ ((σ 11) 1)), .long (lZ ((σ 11) 2)), .long (lZ ((σ 11) 3)), .long (lZ ((σ 11) 4)), .long (lZ ((σ 11) 5)), .long (lZ ((σ 11) 6))]) C 11 3 6 (WD_get (by decide)) rfl (by decide) inlX3 wf_X3_16 rfl hd kk
theorem pf_X3_16 {g : Gx} {K : Kx} {cc : ByteArray} {n fr lo : Nat} {q : Nat → Nat} {σ : Nat → Nat → Int} {pc : Nat} {lv : List (Nat × Value)} {rest : List Value} {z : Int} (C : CX g K cc RX3 n fr lo) (hd : decode cc pc = .ok (.putfield 16, 3)) (kk : GJ g K (WC g q (up σ 11 6 z)) (pc + 3) lv rest) : GJ g K (WC g q σ) pc lv (.long (lZ z) :: .ref (q 11) :: rest) :=
  g_put (fs := [.ref (q 1), .long (lZ ((σ 11) 1)), .long (lZ ((σ 11) 2)), .long (lZ ((σ 11) 3)), .long (lZ ((σ 11) 4)), .long (lZ ((σ 11) 5)), .long (lZ ((σ 11) 6))]) C 11 3 6 tyX3 (WD_get (by decide)) rfl (by decide) inlX3 tyX3_ok nmX3 wf_X3_16 rfl rfl rfl (Nat.le_of_ble_eq_true rfl) (WD_set (updI (σ 11) 6 z)) hd kk
theorem gf_X3_19 {g : Gx} {K : Kx} {cc : ByteArray} {n fr lo : Nat} {q : Nat → Nat} {σ : Nat → Nat → Int} {pc : Nat} {lv : List (Nat × Value)} {rest : List Value} (C : CX g K cc RX3 n fr lo) (hd : decode cc pc = .ok (.getfield 19, 3)) (kk : GJ g K (WC g q σ) (pc + 3) lv (.ref (q 1) :: rest)) : GJ g K (WC g q σ) pc lv (.ref (q 11) :: rest) :=
  g_get (fs := [.ref (q 1), .long (lZ ((σ 11) 1)), .long (lZ ((σ 11) 2)), .long (lZ ((σ 11) 3)), .long (lZ ((σ 11) 4)), .long (lZ ((σ 11) 5)), .long (lZ ((σ 11) 6))]) C 11 3 0 (WD_get (by decide)) rfl (by decide) inlX3 wf_X3_19 rfl hd kk
theorem gf_X1_9 {g : Gx} {K : Kx} {cc : ByteArray} {n fr lo : Nat} {q : Nat → Nat} {σ : Nat → Nat → Int} {pc : Nat} {lv : List (Nat × Value)} {rest : List Value} (C : CX g K cc RX1 n fr lo) (hd : decode cc pc = .ok (.getfield 9, 3)) (kk : GJ g K (WC g q σ) (pc + 3) lv (.ref (q 13) :: rest)) : GJ g K (WC g q σ) pc lv (.ref (q 12) :: rest) :=
  g_get (fs := [.ref (q 1), .int (iZ ((σ 12) 1)), .ref (q 13)]) C 12 1 2 (WD_get (by decide)) rfl (by decide) inlX1 wf_X1_9 rfl hd kk
theorem gf_X1_15 {g : Gx} {K : Kx} {cc : ByteArray} {n fr lo : Nat} {q : Nat → Nat} {σ : Nat → Nat → Int} {pc : Nat} {lv : List (Nat × Value)} {rest : List Value} (C : CX g K cc RX1 n fr lo) (hd : decode cc pc = .ok (.getfield 15, 3)) (kk : GJ g K (WC g q σ) (pc + 3) lv (.ref (q 1) :: rest)) : GJ g K (WC g q σ) pc lv (.ref (q 12) :: rest) :=
  g_get (fs := [.ref (q 1), .int (iZ ((σ 12) 1)), .ref (q 13)]) C 12 1 0 (WD_get (by decide)) rfl (by decide) inlX1 wf_X1_15 rfl hd kk
theorem gf_X2_7 {g : Gx} {K : Kx} {cc : ByteArray} {n fr lo : Nat} {q : Nat → Nat} {σ : Nat → Nat → Int} {pc : Nat} {lv : List (Nat × Value)} {rest : List Value} {c : Nat} (hc : c = 24 ∨ c = 25) (C : CX g K cc RX2 n fr lo) (hd : decode cc pc = .ok (.getfield 7, 3)) (kk : GJ g K (WC g q σ) (pc + 3) lv (.long (lZ (σ c 0)) :: rest)) : GJ g K (WC g q σ) pc lv (.ref (q c) :: rest) :=
  g_get (fs := [.long (lZ ((σ c) 0)), .long (lZ ((σ c) 1))]) C c 2 0 ((WD_get (by omega)).trans (by rw [EC_frac hc])) rfl (by decide) inlX2 wf_X2_7 rfl hd kk
theorem pf_X2_7 {g : Gx} {K : Kx} {cc : ByteArray} {n fr lo : Nat} {q : Nat → Nat} {σ : Nat → Nat → Int} {pc : Nat} {lv : List (Nat × Value)} {rest : List Value} {c : Nat} (hc : c = 24 ∨ c = 25) {z : Int} (C : CX g K cc RX2 n fr lo) (hd : decode cc pc = .ok (.putfield 7, 3)) (kk : GJ g K (WC g q (up σ c 0 z)) (pc + 3) lv rest) : GJ g K (WC g q σ) pc lv (.long (lZ z) :: .ref (q c) :: rest) :=
  g_put (fs := [.long (lZ ((σ c) 0)), .long (lZ ((σ c) 1))]) C c 2 0 tyX2 ((WD_get (by omega)).trans (by rw [EC_frac hc])) rfl (by decide) inlX2 tyX2_ok nmX2 wf_X2_7 rfl rfl rfl (Nat.le_of_ble_eq_true rfl) (by rw [show (Sum.inr (2, ([.long (lZ ((σ c) 0)), .long (lZ ((σ c) 1))] : List Value).set 0 (.long (lZ z))) : va_E) = EC g q c (updI (σ c) 0 z) from (EC_frac hc (updI (σ c) 0 z)).symm]; exact WD_set _) hd kk
theorem gf_X2_13 {g : Gx} {K : Kx} {cc : ByteArray} {n fr lo : Nat} {q : Nat → Nat} {σ : Nat → Nat → Int} {pc : Nat} {lv : List (Nat × Value)} {rest : List Value} {c : Nat} (hc : c = 24 ∨ c = 25) (C : CX g K cc RX2 n fr lo) (hd : decode cc pc = .ok (.getfield 13, 3)) (kk : GJ g K (WC g q σ) (pc + 3) lv (.long (lZ (σ c 1)) :: rest)) : GJ g K (WC g q σ) pc lv (.ref (q c) :: rest) :=
  g_get (fs := [.long (lZ ((σ c) 0)), .long (lZ ((σ c) 1))]) C c 2 1 ((WD_get (by omega)).trans (by rw [EC_frac hc])) rfl (by decide) inlX2 wf_X2_13 rfl hd kk
theorem pf_X2_13 {g : Gx} {K : Kx} {cc : ByteArray} {n fr lo : Nat} {q : Nat → Nat} {σ : Nat → Nat → Int} {pc : Nat} {lv : List (Nat × Value)} {rest : List Value} {c : Nat} (hc : c = 24 ∨ c = 25) {z : Int} (C : CX g K cc RX2 n fr lo) (hd : decode cc pc = .ok (.putfield 13, 3)) (kk : GJ g K (WC g q (up σ c 1 z)) (pc + 3) lv rest) : GJ g K (WC g q σ) pc lv (.long (lZ z) :: .ref (q c) :: rest) :=
  g_put (fs := [.long (lZ ((σ c) 0)), .long (lZ ((σ c) 1))]) C c 2 1 tyX2 ((WD_get (by omega)).trans (by rw [EC_frac hc])) rfl (by decide) inlX2 tyX2_ok nmX2 wf_X2_13 rfl rfl rfl (Nat.le_of_ble_eq_true rfl) (by rw [show (Sum.inr (2, ([.long (lZ ((σ c) 0)), .long (lZ ((σ c) 1))] : List Value).set 1 (.long (lZ z))) : va_E) = EC g q c (updI (σ c) 1 z) from (EC_frac hc (updI (σ c) 1 z)).symm]; exact WD_set _) hd kk
theorem gf_X0_27 {g : Gx} {K : Kx} {cc : ByteArray} {n fr lo : Nat} {q : Nat → Nat} {σ : Nat → Nat → Int} {pc : Nat} {lv : List (Nat × Value)} {rest : List Value} (C : CX g K cc RX0 n fr lo) (hd : decode cc pc = .ok (.getfield 27, 3)) (kk : GJ g K (WC g q σ) (pc + 3) lv (.int (iZ (σ 1 0)) :: rest)) : GJ g K (WC g q σ) pc lv (.ref (q 1) :: rest) :=
  g_get (fs := [.int (iZ ((σ 1) 0)), .ref (q 2), .ref (q 3), .ref (q 4), .ref (q 5), .ref (q 6)]) C 1 0 0 (WD_get (by decide)) rfl (by decide) inlX0 wf_X0_27 rfl hd kk
theorem pf_X0_27 {g : Gx} {K : Kx} {cc : ByteArray} {n fr lo : Nat} {q : Nat → Nat} {σ : Nat → Nat → Int} {pc : Nat} {lv : List (Nat × Value)} {rest : List Value} {z : Int} (C : CX g K cc RX0 n fr lo) (hd : decode cc pc = .ok (.putfield 27, 3)) (kk : GJ g K (WC g q (up σ 1 0 z)) (pc + 3) lv rest) : GJ g K (WC g q σ) pc lv (.int (iZ z) :: .ref (q 1) :: rest) :=
  g_put (fs := [.int (iZ ((σ 1) 0)), .ref (q 2), .ref (q 3), .ref (q 4), .ref (q 5), .ref (q 6)]) C 1 0 0 tyX0 (WD_get (by decide)) rfl (by decide) inlX0 tyX0_ok nmX0 wf_X0_27 rfl rfl rfl (Nat.le_of_ble_eq_true rfl) (WD_set (updI (σ 1) 0 z)) hd kk
theorem gf_X4_9 {g : Gx} {K : Kx} {cc : ByteArray} {n fr lo : Nat} {q : Nat → Nat} {σ : Nat → Nat → Int} {pc : Nat} {lv : List (Nat × Value)} {rest : List Value} {c : Nat} (hc : 15 ≤ c ∧ c < 19) (C : CX g K cc RX4 n fr lo) (hd : decode cc pc = .ok (.getfield 9, 3)) (kk : GJ g K (WC g q σ) (pc + 3) lv (.ref (q (c + 4)) :: rest)) : GJ g K (WC g q σ) pc lv (.ref (q c) :: rest) :=
  g_get (fs := [.int (iZ ((σ c) 0)), .int (iZ ((σ c) 1)), .int (iZ ((σ c) 2)), .ref (q (c + 4))]) C c 4 3 ((WD_get (by omega)).trans (by rw [EC_sheet hc])) rfl (by decide) inlX4 wf_X4_9 rfl hd kk
theorem gf_X7_7 {g : Gx} {K : Kx} {cc : ByteArray} {n fr lo : Nat} {q : Nat → Nat} {σ : Nat → Nat → Int} {pc : Nat} {lv : List (Nat × Value)} {rest : List Value} (C : CX g K cc RX7 n fr lo) (hd : decode cc pc = .ok (.getfield 7, 3)) (kk : GJ g K (WM g q σ) (pc + 3) lv (.int (iZ (σ 0 0)) :: rest)) : GJ g K (WM g q σ) pc lv (.ref (q 0) :: rest) :=
  g_get (fs := [.int (iZ ((σ 0) 0)), .ref (q 1), .ref (q 2), .ref (q 3), .ref (q 4), .ref (q 5), .ref (q 6), .ref (q 7), .ref (q 8), .int (iZ ((σ 0) 9)), .ref (q 9), .long (lZ ((σ 0) 11)), .int (iZ ((σ 0) 12)), .ref (q 10), .long (lZ ((σ 0) 14)), .long (lZ ((σ 0) 15)), .long (lZ ((σ 0) 16)), .int (iZ ((σ 0) 17)), .ref (q 11), .long (lZ ((σ 0) 19)), .long (lZ ((σ 0) 20)), .ref (q 12)]) C 0 7 0 (WD_get (by decide)) rfl (by decide) inlX7 wf_X7_7 rfl hd kk
theorem pf_X7_7 {g : Gx} {K : Kx} {cc : ByteArray} {n fr lo : Nat} {q : Nat → Nat} {σ : Nat → Nat → Int} {pc : Nat} {lv : List (Nat × Value)} {rest : List Value} {z : Int} (C : CX g K cc RX7 n fr lo) (hd : decode cc pc = .ok (.putfield 7, 3)) (kk : GJ g K (WM g q (up σ 0 0 z)) (pc + 3) lv rest) : GJ g K (WM g q σ) pc lv (.int (iZ z) :: .ref (q 0) :: rest) :=
  g_put (fs := [.int (iZ ((σ 0) 0)), .ref (q 1), .ref (q 2), .ref (q 3), .ref (q 4), .ref (q 5), .ref (q 6), .ref (q 7), .ref (q 8), .int (iZ ((σ 0) 9)), .ref (q 9), .long (lZ ((σ 0) 11)), .int (iZ ((σ 0) 12)), .ref (q 10), .long (lZ ((σ 0) 14)), .long (lZ ((σ 0) 15)), .long (lZ ((σ 0) 16)), .int (iZ ((σ 0) 17)), .ref (q 11), .long (lZ ((σ 0) 19)), .long (lZ ((σ 0) 20)), .ref (q 12)]) C 0 7 0 tyX7 (WD_get (by decide)) rfl (by decide) inlX7 tyX7_ok nmX7 wf_X7_7 rfl rfl rfl (Nat.le_of_ble_eq_true rfl) (WD_set (updI (σ 0) 0 z)) hd kk
theorem gf_X7_13 {g : Gx} {K : Kx} {cc : ByteArray} {n fr lo : Nat} {q : Nat → Nat} {σ : Nat → Nat → Int} {pc : Nat} {lv : List (Nat × Value)} {rest : List Value} (C : CX g K cc RX7 n fr lo) (hd : decode cc pc = .ok (.getfield 13, 3)) (kk : GJ g K (WM g q σ) (pc + 3) lv (.ref (q 1) :: rest)) : GJ g K (WM g q σ) pc lv (.ref (q 0) :: rest) :=
  g_get (fs := [.int (iZ ((σ 0) 0)), .ref (q 1), .ref (q 2), .ref (q 3), .ref (q 4), .ref (q 5), .ref (q 6), .ref (q 7), .ref (q 8), .int (iZ ((σ 0) 9)), .ref (q 9), .long (lZ ((σ 0) 11)), .int (iZ ((σ 0) 12)), .ref (q 10), .long (lZ ((σ 0) 14)), .long (lZ ((σ 0) 15)), .long (lZ ((σ 0) 16)), .int (iZ ((σ 0) 17)), .ref (q 11), .long (lZ ((σ 0) 19)), .long (lZ ((σ 0) 20)), .ref (q 12)]) C 0 7 1 (WD_get (by decide)) rfl (by decide) inlX7 wf_X7_13 rfl hd kk
theorem gf_X7_17 {g : Gx} {K : Kx} {cc : ByteArray} {n fr lo : Nat} {q : Nat → Nat} {σ : Nat → Nat → Int} {pc : Nat} {lv : List (Nat × Value)} {rest : List Value} (C : CX g K cc RX7 n fr lo) (hd : decode cc pc = .ok (.getfield 17, 3)) (kk : GJ g K (WM g q σ) (pc + 3) lv (.ref (q 2) :: rest)) : GJ g K (WM g q σ) pc lv (.ref (q 0) :: rest) :=
  g_get (fs := [.int (iZ ((σ 0) 0)), .ref (q 1), .ref (q 2), .ref (q 3), .ref (q 4), .ref (q 5), .ref (q 6), .ref (q 7), .ref (q 8), .int (iZ ((σ 0) 9)), .ref (q 9), .long (lZ ((σ 0) 11)), .int (iZ ((σ 0) 12)), .ref (q 10), .long (lZ ((σ 0) 14)), .long (lZ ((σ 0) 15)), .long (lZ ((σ 0) 16)), .int (iZ ((σ 0) 17)), .ref (q 11), .long (lZ ((σ 0) 19)), .long (lZ ((σ 0) 20)), .ref (q 12)]) C 0 7 2 (WD_get (by decide)) rfl (by decide) inlX7 wf_X7_17 rfl hd kk
theorem gf_X7_20 {g : Gx} {K : Kx} {cc : ByteArray} {n fr lo : Nat} {q : Nat → Nat} {σ : Nat → Nat → Int} {pc : Nat} {lv : List (Nat × Value)} {rest : List Value} (C : CX g K cc RX7 n fr lo) (hd : decode cc pc = .ok (.getfield 20, 3)) (kk : GJ g K (WM g q σ) (pc + 3) lv (.ref (q 3) :: rest)) : GJ g K (WM g q σ) pc lv (.ref (q 0) :: rest) :=
  g_get (fs := [.int (iZ ((σ 0) 0)), .ref (q 1), .ref (q 2), .ref (q 3), .ref (q 4), .ref (q 5), .ref (q 6), .ref (q 7), .ref (q 8), .int (iZ ((σ 0) 9)), .ref (q 9), .long (lZ ((σ 0) 11)), .int (iZ ((σ 0) 12)), .ref (q 10), .long (lZ ((σ 0) 14)), .long (lZ ((σ 0) 15)), .long (lZ ((σ 0) 16)), .int (iZ ((σ 0) 17)), .ref (q 11), .long (lZ ((σ 0) 19)), .long (lZ ((σ 0) 20)), .ref (q 12)]) C 0 7 3 (WD_get (by decide)) rfl (by decide) inlX7 wf_X7_20 rfl hd kk
theorem gf_X7_23 {g : Gx} {K : Kx} {cc : ByteArray} {n fr lo : Nat} {q : Nat → Nat} {σ : Nat → Nat → Int} {pc : Nat} {lv : List (Nat × Value)} {rest : List Value} (C : CX g K cc RX7 n fr lo) (hd : decode cc pc = .ok (.getfield 23, 3)) (kk : GJ g K (WM g q σ) (pc + 3) lv (.ref (q 4) :: rest)) : GJ g K (WM g q σ) pc lv (.ref (q 0) :: rest) :=
  g_get (fs := [.int (iZ ((σ 0) 0)), .ref (q 1), .ref (q 2), .ref (q 3), .ref (q 4), .ref (q 5), .ref (q 6), .ref (q 7), .ref (q 8), .int (iZ ((σ 0) 9)), .ref (q 9), .long (lZ ((σ 0) 11)), .int (iZ ((σ 0) 12)), .ref (q 10), .long (lZ ((σ 0) 14)), .long (lZ ((σ 0) 15)), .long (lZ ((σ 0) 16)), .int (iZ ((σ 0) 17)), .ref (q 11), .long (lZ ((σ 0) 19)), .long (lZ ((σ 0) 20)), .ref (q 12)]) C 0 7 4 (WD_get (by decide)) rfl (by decide) inlX7 wf_X7_23 rfl hd kk
theorem gf_X7_26 {g : Gx} {K : Kx} {cc : ByteArray} {n fr lo : Nat} {q : Nat → Nat} {σ : Nat → Nat → Int} {pc : Nat} {lv : List (Nat × Value)} {rest : List Value} (C : CX g K cc RX7 n fr lo) (hd : decode cc pc = .ok (.getfield 26, 3)) (kk : GJ g K (WM g q σ) (pc + 3) lv (.ref (q 5) :: rest)) : GJ g K (WM g q σ) pc lv (.ref (q 0) :: rest) :=
  g_get (fs := [.int (iZ ((σ 0) 0)), .ref (q 1), .ref (q 2), .ref (q 3), .ref (q 4), .ref (q 5), .ref (q 6), .ref (q 7), .ref (q 8), .int (iZ ((σ 0) 9)), .ref (q 9), .long (lZ ((σ 0) 11)), .int (iZ ((σ 0) 12)), .ref (q 10), .long (lZ ((σ 0) 14)), .long (lZ ((σ 0) 15)), .long (lZ ((σ 0) 16)), .int (iZ ((σ 0) 17)), .ref (q 11), .long (lZ ((σ 0) 19)), .long (lZ ((σ 0) 20)), .ref (q 12)]) C 0 7 5 (WD_get (by decide)) rfl (by decide) inlX7 wf_X7_26 rfl hd kk
theorem gf_X7_29 {g : Gx} {K : Kx} {cc : ByteArray} {n fr lo : Nat} {q : Nat → Nat} {σ : Nat → Nat → Int} {pc : Nat} {lv : List (Nat × Value)} {rest : List Value} (C : CX g K cc RX7 n fr lo) (hd : decode cc pc = .ok (.getfield 29, 3)) (kk : GJ g K (WM g q σ) (pc + 3) lv (.ref (q 6) :: rest)) : GJ g K (WM g q σ) pc lv (.ref (q 0) :: rest) :=
  g_get (fs := [.int (iZ ((σ 0) 0)), .ref (q 1), .ref (q 2), .ref (q 3), .ref (q 4), .ref (q 5), .ref (q 6), .ref (q 7), .ref (q 8), .int (iZ ((σ 0) 9)), .ref (q 9), .long (lZ ((σ 0) 11)), .int (iZ ((σ 0) 12)), .ref (q 10), .long (lZ ((σ 0) 14)), .long (lZ ((σ 0) 15)), .long (lZ ((σ 0) 16)), .int (iZ ((σ 0) 17)), .ref (q 11), .long (lZ ((σ 0) 19)), .long (lZ ((σ 0) 20)), .ref (q 12)]) C 0 7 6 (WD_get (by decide)) rfl (by decide) inlX7 wf_X7_29 rfl hd kk
theorem gf_X7_32 {g : Gx} {K : Kx} {cc : ByteArray} {n fr lo : Nat} {q : Nat → Nat} {σ : Nat → Nat → Int} {pc : Nat} {lv : List (Nat × Value)} {rest : List Value} (C : CX g K cc RX7 n fr lo) (hd : decode cc pc = .ok (.getfield 32, 3)) (kk : GJ g K (WM g q σ) (pc + 3) lv (.ref (q 7) :: rest)) : GJ g K (WM g q σ) pc lv (.ref (q 0) :: rest) :=
  g_get (fs := [.int (iZ ((σ 0) 0)), .ref (q 1), .ref (q 2), .ref (q 3), .ref (q 4), .ref (q 5), .ref (q 6), .ref (q 7), .ref (q 8), .int (iZ ((σ 0) 9)), .ref (q 9), .long (lZ ((σ 0) 11)), .int (iZ ((σ 0) 12)), .ref (q 10), .long (lZ ((σ 0) 14)), .long (lZ ((σ 0) 15)), .long (lZ ((σ 0) 16)), .int (iZ ((σ 0) 17)), .ref (q 11), .long (lZ ((σ 0) 19)), .long (lZ ((σ 0) 20)), .ref (q 12)]) C 0 7 7 (WD_get (by decide)) rfl (by decide) inlX7 wf_X7_32 rfl hd kk
theorem gf_X7_35 {g : Gx} {K : Kx} {cc : ByteArray} {n fr lo : Nat} {q : Nat → Nat} {σ : Nat → Nat → Int} {pc : Nat} {lv : List (Nat × Value)} {rest : List Value} (C : CX g K cc RX7 n fr lo) (hd : decode cc pc = .ok (.getfield 35, 3)) (kk : GJ g K (WM g q σ) (pc + 3) lv (.ref (q 8) :: rest)) : GJ g K (WM g q σ) pc lv (.ref (q 0) :: rest) :=
  g_get (fs := [.int (iZ ((σ 0) 0)), .ref (q 1), .ref (q 2), .ref (q 3), .ref (q 4), .ref (q 5), .ref (q 6), .ref (q 7), .ref (q 8), .int (iZ ((σ 0) 9)), .ref (q 9), .long (lZ ((σ 0) 11)), .int (iZ ((σ 0) 12)), .ref (q 10), .long (lZ ((σ 0) 14)), .long (lZ ((σ 0) 15)), .long (lZ ((σ 0) 16)), .int (iZ ((σ 0) 17)), .ref (q 11), .long (lZ ((σ 0) 19)), .long (lZ ((σ 0) 20)), .ref (q 12)]) C 0 7 8 (WD_get (by decide)) rfl (by decide) inlX7 wf_X7_35 rfl hd kk
theorem gf_X7_39 {g : Gx} {K : Kx} {cc : ByteArray} {n fr lo : Nat} {q : Nat → Nat} {σ : Nat → Nat → Int} {pc : Nat} {lv : List (Nat × Value)} {rest : List Value} (C : CX g K cc RX7 n fr lo) (hd : decode cc pc = .ok (.getfield 39, 3)) (kk : GJ g K (WM g q σ) (pc + 3) lv (.ref (q 9) :: rest)) : GJ g K (WM g q σ) pc lv (.ref (q 0) :: rest) :=
  g_get (fs := [.int (iZ ((σ 0) 0)), .ref (q 1), .ref (q 2), .ref (q 3), .ref (q 4), .ref (q 5), .ref (q 6), .ref (q 7), .ref (q 8), .int (iZ ((σ 0) 9)), .ref (q 9), .long (lZ ((σ 0) 11)), .int (iZ ((σ 0) 12)), .ref (q 10), .long (lZ ((σ 0) 14)), .long (lZ ((σ 0) 15)), .long (lZ ((σ 0) 16)), .int (iZ ((σ 0) 17)), .ref (q 11), .long (lZ ((σ 0) 19)), .long (lZ ((σ 0) 20)), .ref (q 12)]) C 0 7 10 (WD_get (by decide)) rfl (by decide) inlX7 wf_X7_39 rfl hd kk
theorem gf_X7_42 {g : Gx} {K : Kx} {cc : ByteArray} {n fr lo : Nat} {q : Nat → Nat} {σ : Nat → Nat → Int} {pc : Nat} {lv : List (Nat × Value)} {rest : List Value} (C : CX g K cc RX7 n fr lo) (hd : decode cc pc = .ok (.getfield 42, 3)) (kk : GJ g K (WM g q σ) (pc + 3) lv (.ref (q 10) :: rest)) : GJ g K (WM g q σ) pc lv (.ref (q 0) :: rest) :=
  g_get (fs := [.int (iZ ((σ 0) 0)), .ref (q 1), .ref (q 2), .ref (q 3), .ref (q 4), .ref (q 5), .ref (q 6), .ref (q 7), .ref (q 8), .int (iZ ((σ 0) 9)), .ref (q 9), .long (lZ ((σ 0) 11)), .int (iZ ((σ 0) 12)), .ref (q 10), .long (lZ ((σ 0) 14)), .long (lZ ((σ 0) 15)), .long (lZ ((σ 0) 16)), .int (iZ ((σ 0) 17)), .ref (q 11), .long (lZ ((σ 0) 19)), .long (lZ ((σ 0) 20)), .ref (q 12)]) C 0 7 13 (WD_get (by decide)) rfl (by decide) inlX7 wf_X7_42 rfl hd kk
theorem gf_X7_45 {g : Gx} {K : Kx} {cc : ByteArray} {n fr lo : Nat} {q : Nat → Nat} {σ : Nat → Nat → Int} {pc : Nat} {lv : List (Nat × Value)} {rest : List Value} (C : CX g K cc RX7 n fr lo) (hd : decode cc pc = .ok (.getfield 45, 3)) (kk : GJ g K (WM g q σ) (pc + 3) lv (.ref (q 11) :: rest)) : GJ g K (WM g q σ) pc lv (.ref (q 0) :: rest) :=
  g_get (fs := [.int (iZ ((σ 0) 0)), .ref (q 1), .ref (q 2), .ref (q 3), .ref (q 4), .ref (q 5), .ref (q 6), .ref (q 7), .ref (q 8), .int (iZ ((σ 0) 9)), .ref (q 9), .long (lZ ((σ 0) 11)), .int (iZ ((σ 0) 12)), .ref (q 10), .long (lZ ((σ 0) 14)), .long (lZ ((σ 0) 15)), .long (lZ ((σ 0) 16)), .int (iZ ((σ 0) 17)), .ref (q 11), .long (lZ ((σ 0) 19)), .long (lZ ((σ 0) 20)), .ref (q 12)]) C 0 7 18 (WD_get (by decide)) rfl (by decide) inlX7 wf_X7_45 rfl hd kk
theorem gf_X7_48 {g : Gx} {K : Kx} {cc : ByteArray} {n fr lo : Nat} {q : Nat → Nat} {σ : Nat → Nat → Int} {pc : Nat} {lv : List (Nat × Value)} {rest : List Value} (C : CX g K cc RX7 n fr lo) (hd : decode cc pc = .ok (.getfield 48, 3)) (kk : GJ g K (WM g q σ) (pc + 3) lv (.ref (q 12) :: rest)) : GJ g K (WM g q σ) pc lv (.ref (q 0) :: rest) :=
  g_get (fs := [.int (iZ ((σ 0) 0)), .ref (q 1), .ref (q 2), .ref (q 3), .ref (q 4), .ref (q 5), .ref (q 6), .ref (q 7), .ref (q 8), .int (iZ ((σ 0) 9)), .ref (q 9), .long (lZ ((σ 0) 11)), .int (iZ ((σ 0) 12)), .ref (q 10), .long (lZ ((σ 0) 14)), .long (lZ ((σ 0) 15)), .long (lZ ((σ 0) 16)), .int (iZ ((σ 0) 17)), .ref (q 11), .long (lZ ((σ 0) 19)), .long (lZ ((σ 0) 20)), .ref (q 12)]) C 0 7 21 (WD_get (by decide)) rfl (by decide) inlX7 wf_X7_48 rfl hd kk
theorem gf_X6_64 {g : Gx} {K : Kx} {cc : ByteArray} {n fr lo : Nat} {q : Nat → Nat} {σ : Nat → Nat → Int} {pc : Nat} {lv : List (Nat × Value)} {rest : List Value} (C : CX g K cc RX6 n fr lo) (hd : decode cc pc = .ok (.getfield 64, 3)) (kk : GJ g K (WC g q σ) (pc + 3) lv (.int (iZ (σ 1 0)) :: rest)) : GJ g K (WC g q σ) pc lv (.ref (q 1) :: rest) :=
  g_get (fs := [.int (iZ ((σ 1) 0)), .ref (q 2), .ref (q 3), .ref (q 4), .ref (q 5), .ref (q 6)]) C 1 0 0 (WD_get (by decide)) rfl (by decide) inlX0 wf_X6_64 rfl hd kk
theorem pf_X6_64 {g : Gx} {K : Kx} {cc : ByteArray} {n fr lo : Nat} {q : Nat → Nat} {σ : Nat → Nat → Int} {pc : Nat} {lv : List (Nat × Value)} {rest : List Value} {z : Int} (C : CX g K cc RX6 n fr lo) (hd : decode cc pc = .ok (.putfield 64, 3)) (kk : GJ g K (WC g q (up σ 1 0 z)) (pc + 3) lv rest) : GJ g K (WC g q σ) pc lv (.int (iZ z) :: .ref (q 1) :: rest) :=
  g_put (fs := [.int (iZ ((σ 1) 0)), .ref (q 2), .ref (q 3), .ref (q 4), .ref (q 5), .ref (q 6)]) C 1 0 0 tyX0 (WD_get (by decide)) rfl (by decide) inlX0 tyX0_ok nmX0 wf_X6_64 rfl rfl rfl (Nat.le_of_ble_eq_true rfl) (WD_set (updI (σ 1) 0 z)) hd kk
theorem gf_X6_68 {g : Gx} {K : Kx} {cc : ByteArray} {n fr lo : Nat} {q : Nat → Nat} {σ : Nat → Nat → Int} {pc : Nat} {lv : List (Nat × Value)} {rest : List Value} (C : CX g K cc RX6 n fr lo) (hd : decode cc pc = .ok (.getfield 68, 3)) (kk : GJ g K (WC g q σ) (pc + 3) lv (.ref (q 2) :: rest)) : GJ g K (WC g q σ) pc lv (.ref (q 1) :: rest) :=
  g_get (fs := [.int (iZ ((σ 1) 0)), .ref (q 2), .ref (q 3), .ref (q 4), .ref (q 5), .ref (q 6)]) C 1 0 1 (WD_get (by decide)) rfl (by decide) inlX0 wf_X6_68 rfl hd kk
theorem gf_X6_79 {g : Gx} {K : Kx} {cc : ByteArray} {n fr lo : Nat} {q : Nat → Nat} {σ : Nat → Nat → Int} {pc : Nat} {lv : List (Nat × Value)} {rest : List Value} (C : CX g K cc RX6 n fr lo) (hd : decode cc pc = .ok (.getfield 79, 3)) (kk : GJ g K (WC g q σ) (pc + 3) lv (.ref (q 3) :: rest)) : GJ g K (WC g q σ) pc lv (.ref (q 1) :: rest) :=
  g_get (fs := [.int (iZ ((σ 1) 0)), .ref (q 2), .ref (q 3), .ref (q 4), .ref (q 5), .ref (q 6)]) C 1 0 2 (WD_get (by decide)) rfl (by decide) inlX0 wf_X6_79 rfl hd kk
theorem gf_X6_82 {g : Gx} {K : Kx} {cc : ByteArray} {n fr lo : Nat} {q : Nat → Nat} {σ : Nat → Nat → Int} {pc : Nat} {lv : List (Nat × Value)} {rest : List Value} (C : CX g K cc RX6 n fr lo) (hd : decode cc pc = .ok (.getfield 82, 3)) (kk : GJ g K (WC g q σ) (pc + 3) lv (.ref (q 4) :: rest)) : GJ g K (WC g q σ) pc lv (.ref (q 1) :: rest) :=
  g_get (fs := [.int (iZ ((σ 1) 0)), .ref (q 2), .ref (q 3), .ref (q 4), .ref (q 5), .ref (q 6)]) C 1 0 3 (WD_get (by decide)) rfl (by decide) inlX0 wf_X6_82 rfl hd kk
theorem gf_X6_91 {g : Gx} {K : Kx} {cc : ByteArray} {n fr lo : Nat} {q : Nat → Nat} {σ : Nat → Nat → Int} {pc : Nat} {lv : List (Nat × Value)} {rest : List Value} (C : CX g K cc RX6 n fr lo) (hd : decode cc pc = .ok (.getfield 91, 3)) (kk : GJ g K (WC g q σ) (pc + 3) lv (.ref (q 5) :: rest)) : GJ g K (WC g q σ) pc lv (.ref (q 1) :: rest) :=
  g_get (fs := [.int (iZ ((σ 1) 0)), .ref (q 2), .ref (q 3), .ref (q 4), .ref (q 5), .ref (q 6)]) C 1 0 4 (WD_get (by decide)) rfl (by decide) inlX0 wf_X6_91 rfl hd kk
theorem gf_X4_15 {g : Gx} {K : Kx} {cc : ByteArray} {n fr lo : Nat} {q : Nat → Nat} {σ : Nat → Nat → Int} {pc : Nat} {lv : List (Nat × Value)} {rest : List Value} {c : Nat} (hc : 15 ≤ c ∧ c < 19) (C : CX g K cc RX4 n fr lo) (hd : decode cc pc = .ok (.getfield 15, 3)) (kk : GJ g K (WC g q σ) (pc + 3) lv (.int (iZ (σ c 0)) :: rest)) : GJ g K (WC g q σ) pc lv (.ref (q c) :: rest) :=
  g_get (fs := [.int (iZ ((σ c) 0)), .int (iZ ((σ c) 1)), .int (iZ ((σ c) 2)), .ref (q (c + 4))]) C c 4 0 ((WD_get (by omega)).trans (by rw [EC_sheet hc])) rfl (by decide) inlX4 wf_X4_15 rfl hd kk
theorem pf_X4_15 {g : Gx} {K : Kx} {cc : ByteArray} {n fr lo : Nat} {q : Nat → Nat} {σ : Nat → Nat → Int} {pc : Nat} {lv : List (Nat × Value)} {rest : List Value} {c : Nat} (hc : 15 ≤ c ∧ c < 19) {z : Int} (hz : z = 0 ∨ z = 1) (C : CX g K cc RX4 n fr lo) (hd : decode cc pc = .ok (.putfield 15, 3)) (kk : GJ g K (WC g q (up σ c 0 z)) (pc + 3) lv rest) : GJ g K (WC g q σ) pc lv (.int (iZ z) :: .ref (q c) :: rest) :=
  g_put (fs := [.int (iZ ((σ c) 0)), .int (iZ ((σ c) 1)), .int (iZ ((σ c) 2)), .ref (q (c + 4))]) C c 4 0 tyX4 ((WD_get (by omega)).trans (by rw [EC_sheet hc])) rfl (by decide) inlX4 tyX4_ok nmX4 wf_X4_15 rfl (nar_b hz).1 (nar_b hz).2 (Nat.le_of_ble_eq_true rfl) (by rw [show (Sum.inr (4, ([.int (iZ ((σ c) 0)), .int (iZ ((σ c) 1)), .int (iZ ((σ c) 2)), .ref (q (c + 4))] : List Value).set 0 (.int (iZ z))) : va_E) = EC g q c (updI (σ c) 0 z) from (EC_sheet hc (updI (σ c) 0 z)).symm]; exact WD_set _) hd kk
theorem gf_X4_19 {g : Gx} {K : Kx} {cc : ByteArray} {n fr lo : Nat} {q : Nat → Nat} {σ : Nat → Nat → Int} {pc : Nat} {lv : List (Nat × Value)} {rest : List Value} {c : Nat} (hc : 15 ≤ c ∧ c < 19) (C : CX g K cc RX4 n fr lo) (hd : decode cc pc = .ok (.getfield 19, 3)) (kk : GJ g K (WC g q σ) (pc + 3) lv (.int (iZ (σ c 1)) :: rest)) : GJ g K (WC g q σ) pc lv (.ref (q c) :: rest) :=
  g_get (fs := [.int (iZ ((σ c) 0)), .int (iZ ((σ c) 1)), .int (iZ ((σ c) 2)), .ref (q (c + 4))]) C c 4 1 ((WD_get (by omega)).trans (by rw [EC_sheet hc])) rfl (by decide) inlX4 wf_X4_19 rfl hd kk
theorem pf_X4_19 {g : Gx} {K : Kx} {cc : ByteArray} {n fr lo : Nat} {q : Nat → Nat} {σ : Nat → Nat → Int} {pc : Nat} {lv : List (Nat × Value)} {rest : List Value} {c : Nat} (hc : 15 ≤ c ∧ c < 19) {z : Int} (C : CX g K cc RX4 n fr lo) (hd : decode cc pc = .ok (.putfield 19, 3)) (kk : GJ g K (WC g q (up σ c 1 z)) (pc + 3) lv rest) : GJ g K (WC g q σ) pc lv (.int (iZ z) :: .ref (q c) :: rest) :=
  g_put (fs := [.int (iZ ((σ c) 0)), .int (iZ ((σ c) 1)), .int (iZ ((σ c) 2)), .ref (q (c + 4))]) C c 4 1 tyX4 ((WD_get (by omega)).trans (by rw [EC_sheet hc])) rfl (by decide) inlX4 tyX4_ok nmX4 wf_X4_19 rfl rfl rfl (Nat.le_of_ble_eq_true rfl) (by rw [show (Sum.inr (4, ([.int (iZ ((σ c) 0)), .int (iZ ((σ c) 1)), .int (iZ ((σ c) 2)), .ref (q (c + 4))] : List Value).set 1 (.int (iZ z))) : va_E) = EC g q c (updI (σ c) 1 z) from (EC_sheet hc (updI (σ c) 1 z)).symm]; exact WD_set _) hd kk
theorem gf_X4_23 {g : Gx} {K : Kx} {cc : ByteArray} {n fr lo : Nat} {q : Nat → Nat} {σ : Nat → Nat → Int} {pc : Nat} {lv : List (Nat × Value)} {rest : List Value} {c : Nat} (hc : 15 ≤ c ∧ c < 19) (C : CX g K cc RX4 n fr lo) (hd : decode cc pc = .ok (.getfield 23, 3)) (kk : GJ g K (WC g q σ) (pc + 3) lv (.int (iZ (σ c 2)) :: rest)) : GJ g K (WC g q σ) pc lv (.ref (q c) :: rest) :=
  g_get (fs := [.int (iZ ((σ c) 0)), .int (iZ ((σ c) 1)), .int (iZ ((σ c) 2)), .ref (q (c + 4))]) C c 4 2 ((WD_get (by omega)).trans (by rw [EC_sheet hc])) rfl (by decide) inlX4 wf_X4_23 rfl hd kk
theorem pf_X4_23 {g : Gx} {K : Kx} {cc : ByteArray} {n fr lo : Nat} {q : Nat → Nat} {σ : Nat → Nat → Int} {pc : Nat} {lv : List (Nat × Value)} {rest : List Value} {c : Nat} (hc : 15 ≤ c ∧ c < 19) {z : Int} (C : CX g K cc RX4 n fr lo) (hd : decode cc pc = .ok (.putfield 23, 3)) (kk : GJ g K (WC g q (up σ c 2 z)) (pc + 3) lv rest) : GJ g K (WC g q σ) pc lv (.int (iZ z) :: .ref (q c) :: rest) :=
  g_put (fs := [.int (iZ ((σ c) 0)), .int (iZ ((σ c) 1)), .int (iZ ((σ c) 2)), .ref (q (c + 4))]) C c 4 2 tyX4 ((WD_get (by omega)).trans (by rw [EC_sheet hc])) rfl (by decide) inlX4 tyX4_ok nmX4 wf_X4_23 rfl rfl rfl (Nat.le_of_ble_eq_true rfl) (by rw [show (Sum.inr (4, ([.int (iZ ((σ c) 0)), .int (iZ ((σ c) 1)), .int (iZ ((σ c) 2)), .ref (q (c + 4))] : List Value).set 2 (.int (iZ z))) : va_E) = EC g q c (updI (σ c) 2 z) from (EC_sheet hc (updI (σ c) 2 z)).symm]; exact WD_set _) hd kk
theorem gf_X6_104 {g : Gx} {K : Kx} {cc : ByteArray} {n fr lo : Nat} {q : Nat → Nat} {σ : Nat → Nat → Int} {pc : Nat} {lv : List (Nat × Value)} {rest : List Value} {c : Nat} (hc : 15 ≤ c ∧ c < 19) (C : CX g K cc RX6 n fr lo) (hd : decode cc pc = .ok (.getfield 104, 3)) (kk : GJ g K (WC g q σ) (pc + 3) lv (.int (iZ (σ c 0)) :: rest)) : GJ g K (WC g q σ) pc lv (.ref (q c) :: rest) :=
  g_get (fs := [.int (iZ ((σ c) 0)), .int (iZ ((σ c) 1)), .int (iZ ((σ c) 2)), .ref (q (c + 4))]) C c 4 0 ((WD_get (by omega)).trans (by rw [EC_sheet hc])) rfl (by decide) inlX4 wf_X6_104 rfl hd kk
theorem pf_X6_104 {g : Gx} {K : Kx} {cc : ByteArray} {n fr lo : Nat} {q : Nat → Nat} {σ : Nat → Nat → Int} {pc : Nat} {lv : List (Nat × Value)} {rest : List Value} {c : Nat} (hc : 15 ≤ c ∧ c < 19) {z : Int} (hz : z = 0 ∨ z = 1) (C : CX g K cc RX6 n fr lo) (hd : decode cc pc = .ok (.putfield 104, 3)) (kk : GJ g K (WC g q (up σ c 0 z)) (pc + 3) lv rest) : GJ g K (WC g q σ) pc lv (.int (iZ z) :: .ref (q c) :: rest) :=
  g_put (fs := [.int (iZ ((σ c) 0)), .int (iZ ((σ c) 1)), .int (iZ ((σ c) 2)), .ref (q (c + 4))]) C c 4 0 tyX4 ((WD_get (by omega)).trans (by rw [EC_sheet hc])) rfl (by decide) inlX4 tyX4_ok nmX4 wf_X6_104 rfl (nar_b hz).1 (nar_b hz).2 (Nat.le_of_ble_eq_true rfl) (by rw [show (Sum.inr (4, ([.int (iZ ((σ c) 0)), .int (iZ ((σ c) 1)), .int (iZ ((σ c) 2)), .ref (q (c + 4))] : List Value).set 0 (.int (iZ z))) : va_E) = EC g q c (updI (σ c) 0 z) from (EC_sheet hc (updI (σ c) 0 z)).symm]; exact WD_set _) hd kk
theorem gf_X6_108 {g : Gx} {K : Kx} {cc : ByteArray} {n fr lo : Nat} {q : Nat → Nat} {σ : Nat → Nat → Int} {pc : Nat} {lv : List (Nat × Value)} {rest : List Value} {c : Nat} (hc : 15 ≤ c ∧ c < 19) (C : CX g K cc RX6 n fr lo) (hd : decode cc pc = .ok (.getfield 108, 3)) (kk : GJ g K (WC g q σ) (pc + 3) lv (.int (iZ (σ c 2)) :: rest)) : GJ g K (WC g q σ) pc lv (.ref (q c) :: rest) :=
  g_get (fs := [.int (iZ ((σ c) 0)), .int (iZ ((σ c) 1)), .int (iZ ((σ c) 2)), .ref (q (c + 4))]) C c 4 2 ((WD_get (by omega)).trans (by rw [EC_sheet hc])) rfl (by decide) inlX4 wf_X6_108 rfl hd kk
theorem pf_X6_108 {g : Gx} {K : Kx} {cc : ByteArray} {n fr lo : Nat} {q : Nat → Nat} {σ : Nat → Nat → Int} {pc : Nat} {lv : List (Nat × Value)} {rest : List Value} {c : Nat} (hc : 15 ≤ c ∧ c < 19) {z : Int} (C : CX g K cc RX6 n fr lo) (hd : decode cc pc = .ok (.putfield 108, 3)) (kk : GJ g K (WC g q (up σ c 2 z)) (pc + 3) lv rest) : GJ g K (WC g q σ) pc lv (.int (iZ z) :: .ref (q c) :: rest) :=
  g_put (fs := [.int (iZ ((σ c) 0)), .int (iZ ((σ c) 1)), .int (iZ ((σ c) 2)), .ref (q (c + 4))]) C c 4 2 tyX4 ((WD_get (by omega)).trans (by rw [EC_sheet hc])) rfl (by decide) inlX4 tyX4_ok nmX4 wf_X6_108 rfl rfl rfl (Nat.le_of_ble_eq_true rfl) (by rw [show (Sum.inr (4, ([.int (iZ ((σ c) 0)), .int (iZ ((σ c) 1)), .int (iZ ((σ c) 2)), .ref (q (c + 4))] : List Value).set 2 (.int (iZ z))) : va_E) = EC g q c (updI (σ c) 2 z) from (EC_sheet hc (updI (σ c) 2 z)).symm]; exact WD_set _) hd kk
theorem gf_X6_115 {g : Gx} {K : Kx} {cc : ByteArray} {n fr lo : Nat} {q : Nat → Nat} {σ : Nat → Nat → Int} {pc : Nat} {lv : List (Nat × Value)} {rest : List Value} {c : Nat} (hc : 15 ≤ c ∧ c < 19) (C : CX g K cc RX6 n fr lo) (hd : decode cc pc = .ok (.getfield 115, 3)) (kk : GJ g K (WC g q σ) (pc + 3) lv (.ref (q (c + 4)) :: rest)) : GJ g K (WC g q σ) pc lv (.ref (q c) :: rest) :=
  g_get (fs := [.int (iZ ((σ c) 0)), .int (iZ ((σ c) 1)), .int (iZ ((σ c) 2)), .ref (q (c + 4))]) C c 4 3 ((WD_get (by omega)).trans (by rw [EC_sheet hc])) rfl (by decide) inlX4 wf_X6_115 rfl hd kk
theorem gf_X6_217 {g : Gx} {K : Kx} {cc : ByteArray} {n fr lo : Nat} {q : Nat → Nat} {σ : Nat → Nat → Int} {pc : Nat} {lv : List (Nat × Value)} {rest : List Value} {c : Nat} (hc : 15 ≤ c ∧ c < 19) (C : CX g K cc RX6 n fr lo) (hd : decode cc pc = .ok (.getfield 217, 3)) (kk : GJ g K (WC g q σ) (pc + 3) lv (.int (iZ (σ c 1)) :: rest)) : GJ g K (WC g q σ) pc lv (.ref (q c) :: rest) :=
  g_get (fs := [.int (iZ ((σ c) 0)), .int (iZ ((σ c) 1)), .int (iZ ((σ c) 2)), .ref (q (c + 4))]) C c 4 1 ((WD_get (by omega)).trans (by rw [EC_sheet hc])) rfl (by decide) inlX4 wf_X6_217 rfl hd kk
theorem pf_X6_217 {g : Gx} {K : Kx} {cc : ByteArray} {n fr lo : Nat} {q : Nat → Nat} {σ : Nat → Nat → Int} {pc : Nat} {lv : List (Nat × Value)} {rest : List Value} {c : Nat} (hc : 15 ≤ c ∧ c < 19) {z : Int} (C : CX g K cc RX6 n fr lo) (hd : decode cc pc = .ok (.putfield 217, 3)) (kk : GJ g K (WC g q (up σ c 1 z)) (pc + 3) lv rest) : GJ g K (WC g q σ) pc lv (.int (iZ z) :: .ref (q c) :: rest) :=
  g_put (fs := [.int (iZ ((σ c) 0)), .int (iZ ((σ c) 1)), .int (iZ ((σ c) 2)), .ref (q (c + 4))]) C c 4 1 tyX4 ((WD_get (by omega)).trans (by rw [EC_sheet hc])) rfl (by decide) inlX4 tyX4_ok nmX4 wf_X6_217 rfl rfl rfl (Nat.le_of_ble_eq_true rfl) (by rw [show (Sum.inr (4, ([.int (iZ ((σ c) 0)), .int (iZ ((σ c) 1)), .int (iZ ((σ c) 2)), .ref (q (c + 4))] : List Value).set 1 (.int (iZ z))) : va_E) = EC g q c (updI (σ c) 1 z) from (EC_sheet hc (updI (σ c) 1 z)).symm]; exact WD_set _) hd kk
theorem gf_X6_131 {g : Gx} {K : Kx} {cc : ByteArray} {n fr lo : Nat} {q : Nat → Nat} {σ : Nat → Nat → Int} {pc : Nat} {lv : List (Nat × Value)} {rest : List Value} (C : CX g K cc RX6 n fr lo) (hd : decode cc pc = .ok (.getfield 131, 3)) (kk : GJ g K (WC g q σ) (pc + 3) lv (.ref (q 6) :: rest)) : GJ g K (WC g q σ) pc lv (.ref (q 1) :: rest) :=
  g_get (fs := [.int (iZ ((σ 1) 0)), .ref (q 2), .ref (q 3), .ref (q 4), .ref (q 5), .ref (q 6)]) C 1 0 5 (WD_get (by decide)) rfl (by decide) inlX0 wf_X6_131 rfl hd kk
theorem gf_X5_29 {g : Gx} {K : Kx} {cc : ByteArray} {n fr lo : Nat} {q : Nat → Nat} {σ : Nat → Nat → Int} {pc : Nat} {lv : List (Nat × Value)} {rest : List Value} (C : CX g K cc RX5 n fr lo) (hd : decode cc pc = .ok (.getfield 29, 3)) (kk : GJ g K (WC g q σ) (pc + 3) lv (.int (iZ (σ 7 1)) :: rest)) : GJ g K (WC g q σ) pc lv (.ref (q 7) :: rest) :=
  g_get (fs := [.ref (q 1), .int (iZ ((σ 7) 1)), .ref (q 8), .ref (q 9), .ref (q 10)]) C 7 5 1 (WD_get (by decide)) rfl (by decide) inlX5 wf_X5_29 rfl hd kk
theorem pf_X5_29 {g : Gx} {K : Kx} {cc : ByteArray} {n fr lo : Nat} {q : Nat → Nat} {σ : Nat → Nat → Int} {pc : Nat} {lv : List (Nat × Value)} {rest : List Value} {z : Int} (C : CX g K cc RX5 n fr lo) (hd : decode cc pc = .ok (.putfield 29, 3)) (kk : GJ g K (WC g q (up σ 7 1 z)) (pc + 3) lv rest) : GJ g K (WC g q σ) pc lv (.int (iZ z) :: .ref (q 7) :: rest) :=
  g_put (fs := [.ref (q 1), .int (iZ ((σ 7) 1)), .ref (q 8), .ref (q 9), .ref (q 10)]) C 7 5 1 tyX5 (WD_get (by decide)) rfl (by decide) inlX5 tyX5_ok nmX5 wf_X5_29 rfl rfl rfl (Nat.le_of_ble_eq_true rfl) (WD_set (updI (σ 7) 1 z)) hd kk
theorem gf_X5_33 {g : Gx} {K : Kx} {cc : ByteArray} {n fr lo : Nat} {q : Nat → Nat} {σ : Nat → Nat → Int} {pc : Nat} {lv : List (Nat × Value)} {rest : List Value} (C : CX g K cc RX5 n fr lo) (hd : decode cc pc = .ok (.getfield 33, 3)) (kk : GJ g K (WC g q σ) (pc + 3) lv (.int (iZ (σ 1 0)) :: rest)) : GJ g K (WC g q σ) pc lv (.ref (q 1) :: rest) :=
  g_get (fs := [.int (iZ ((σ 1) 0)), .ref (q 2), .ref (q 3), .ref (q 4), .ref (q 5), .ref (q 6)]) C 1 0 0 (WD_get (by decide)) rfl (by decide) inlX0 wf_X5_33 rfl hd kk
theorem pf_X5_33 {g : Gx} {K : Kx} {cc : ByteArray} {n fr lo : Nat} {q : Nat → Nat} {σ : Nat → Nat → Int} {pc : Nat} {lv : List (Nat × Value)} {rest : List Value} {z : Int} (C : CX g K cc RX5 n fr lo) (hd : decode cc pc = .ok (.putfield 33, 3)) (kk : GJ g K (WC g q (up σ 1 0 z)) (pc + 3) lv rest) : GJ g K (WC g q σ) pc lv (.int (iZ z) :: .ref (q 1) :: rest) :=
  g_put (fs := [.int (iZ ((σ 1) 0)), .ref (q 2), .ref (q 3), .ref (q 4), .ref (q 5), .ref (q 6)]) C 1 0 0 tyX0 (WD_get (by decide)) rfl (by decide) inlX0 tyX0_ok nmX0 wf_X5_33 rfl rfl rfl (Nat.le_of_ble_eq_true rfl) (WD_set (updI (σ 1) 0 z)) hd kk
theorem gf_X5_36 {g : Gx} {K : Kx} {cc : ByteArray} {n fr lo : Nat} {q : Nat → Nat} {σ : Nat → Nat → Int} {pc : Nat} {lv : List (Nat × Value)} {rest : List Value} (C : CX g K cc RX5 n fr lo) (hd : decode cc pc = .ok (.getfield 36, 3)) (kk : GJ g K (WC g q σ) (pc + 3) lv (.ref (q 3) :: rest)) : GJ g K (WC g q σ) pc lv (.ref (q 1) :: rest) :=
  g_get (fs := [.int (iZ ((σ 1) 0)), .ref (q 2), .ref (q 3), .ref (q 4), .ref (q 5), .ref (q 6)]) C 1 0 2 (WD_get (by decide)) rfl (by decide) inlX0 wf_X5_36 rfl hd kk
theorem gf_X5_40 {g : Gx} {K : Kx} {cc : ByteArray} {n fr lo : Nat} {q : Nat → Nat} {σ : Nat → Nat → Int} {pc : Nat} {lv : List (Nat × Value)} {rest : List Value} (C : CX g K cc RX5 n fr lo) (hd : decode cc pc = .ok (.getfield 40, 3)) (kk : GJ g K (WC g q σ) (pc + 3) lv (.ref (q 4) :: rest)) : GJ g K (WC g q σ) pc lv (.ref (q 1) :: rest) :=
  g_get (fs := [.int (iZ ((σ 1) 0)), .ref (q 2), .ref (q 3), .ref (q 4), .ref (q 5), .ref (q 6)]) C 1 0 3 (WD_get (by decide)) rfl (by decide) inlX0 wf_X5_40 rfl hd kk
theorem gf_X7_114 {g : Gx} {K : Kx} {cc : ByteArray} {n fr lo : Nat} {q : Nat → Nat} {σ : Nat → Nat → Int} {pc : Nat} {lv : List (Nat × Value)} {rest : List Value} (C : CX g K cc RX7 n fr lo) (hd : decode cc pc = .ok (.getfield 114, 3)) (kk : GJ g K (WM g q σ) (pc + 3) lv (.int (iZ (σ 0 12)) :: rest)) : GJ g K (WM g q σ) pc lv (.ref (q 0) :: rest) :=
  g_get (fs := [.int (iZ ((σ 0) 0)), .ref (q 1), .ref (q 2), .ref (q 3), .ref (q 4), .ref (q 5), .ref (q 6), .ref (q 7), .ref (q 8), .int (iZ ((σ 0) 9)), .ref (q 9), .long (lZ ((σ 0) 11)), .int (iZ ((σ 0) 12)), .ref (q 10), .long (lZ ((σ 0) 14)), .long (lZ ((σ 0) 15)), .long (lZ ((σ 0) 16)), .int (iZ ((σ 0) 17)), .ref (q 11), .long (lZ ((σ 0) 19)), .long (lZ ((σ 0) 20)), .ref (q 12)]) C 0 7 12 (WD_get (by decide)) rfl (by decide) inlX7 wf_X7_114 rfl hd kk
theorem pf_X7_114 {g : Gx} {K : Kx} {cc : ByteArray} {n fr lo : Nat} {q : Nat → Nat} {σ : Nat → Nat → Int} {pc : Nat} {lv : List (Nat × Value)} {rest : List Value} {z : Int} (hz : z = 0 ∨ z = 1) (C : CX g K cc RX7 n fr lo) (hd : decode cc pc = .ok (.putfield 114, 3)) (kk : GJ g K (WM g q (up σ 0 12 z)) (pc + 3) lv rest) : GJ g K (WM g q σ) pc lv (.int (iZ z) :: .ref (q 0) :: rest) :=
  g_put (fs := [.int (iZ ((σ 0) 0)), .ref (q 1), .ref (q 2), .ref (q 3), .ref (q 4), .ref (q 5), .ref (q 6), .ref (q 7), .ref (q 8), .int (iZ ((σ 0) 9)), .ref (q 9), .long (lZ ((σ 0) 11)), .int (iZ ((σ 0) 12)), .ref (q 10), .long (lZ ((σ 0) 14)), .long (lZ ((σ 0) 15)), .long (lZ ((σ 0) 16)), .int (iZ ((σ 0) 17)), .ref (q 11), .long (lZ ((σ 0) 19)), .long (lZ ((σ 0) 20)), .ref (q 12)]) C 0 7 12 tyX7 (WD_get (by decide)) rfl (by decide) inlX7 tyX7_ok nmX7 wf_X7_114 rfl (nar_b hz).1 (nar_b hz).2 (Nat.le_of_ble_eq_true rfl) (WD_set (updI (σ 0) 12 z)) hd kk
theorem gf_X7_88 {g : Gx} {K : Kx} {cc : ByteArray} {n fr lo : Nat} {q : Nat → Nat} {σ : Nat → Nat → Int} {pc : Nat} {lv : List (Nat × Value)} {rest : List Value} (C : CX g K cc RX7 n fr lo) (hd : decode cc pc = .ok (.getfield 88, 3)) (kk : GJ g K (WM g q σ) (pc + 3) lv (.int (iZ (σ 0 9)) :: rest)) : GJ g K (WM g q σ) pc lv (.ref (q 0) :: rest) :=
  g_get (fs := [.int (iZ ((σ 0) 0)), .ref (q 1), .ref (q 2), .ref (q 3), .ref (q 4), .ref (q 5), .ref (q 6), .ref (q 7), .ref (q 8), .int (iZ ((σ 0) 9)), .ref (q 9), .long (lZ ((σ 0) 11)), .int (iZ ((σ 0) 12)), .ref (q 10), .long (lZ ((σ 0) 14)), .long (lZ ((σ 0) 15)), .long (lZ ((σ 0) 16)), .int (iZ ((σ 0) 17)), .ref (q 11), .long (lZ ((σ 0) 19)), .long (lZ ((σ 0) 20)), .ref (q 12)]) C 0 7 9 (WD_get (by decide)) rfl (by decide) inlX7 wf_X7_88 rfl hd kk
theorem pf_X7_88 {g : Gx} {K : Kx} {cc : ByteArray} {n fr lo : Nat} {q : Nat → Nat} {σ : Nat → Nat → Int} {pc : Nat} {lv : List (Nat × Value)} {rest : List Value} {z : Int} (C : CX g K cc RX7 n fr lo) (hd : decode cc pc = .ok (.putfield 88, 3)) (kk : GJ g K (WM g q (up σ 0 9 z)) (pc + 3) lv rest) : GJ g K (WM g q σ) pc lv (.int (iZ z) :: .ref (q 0) :: rest) :=
  g_put (fs := [.int (iZ ((σ 0) 0)), .ref (q 1), .ref (q 2), .ref (q 3), .ref (q 4), .ref (q 5), .ref (q 6), .ref (q 7), .ref (q 8), .int (iZ ((σ 0) 9)), .ref (q 9), .long (lZ ((σ 0) 11)), .int (iZ ((σ 0) 12)), .ref (q 10), .long (lZ ((σ 0) 14)), .long (lZ ((σ 0) 15)), .long (lZ ((σ 0) 16)), .int (iZ ((σ 0) 17)), .ref (q 11), .long (lZ ((σ 0) 19)), .long (lZ ((σ 0) 20)), .ref (q 12)]) C 0 7 9 tyX7 (WD_get (by decide)) rfl (by decide) inlX7 tyX7_ok nmX7 wf_X7_88 rfl rfl rfl (Nat.le_of_ble_eq_true rfl) (WD_set (updI (σ 0) 9 z)) hd kk
theorem gf_X7_91 {g : Gx} {K : Kx} {cc : ByteArray} {n fr lo : Nat} {q : Nat → Nat} {σ : Nat → Nat → Int} {pc : Nat} {lv : List (Nat × Value)} {rest : List Value} (C : CX g K cc RX7 n fr lo) (hd : decode cc pc = .ok (.getfield 91, 3)) (kk : GJ g K (WM g q σ) (pc + 3) lv (.long (lZ (σ 0 11)) :: rest)) : GJ g K (WM g q σ) pc lv (.ref (q 0) :: rest) :=
  g_get (fs := [.int (iZ ((σ 0) 0)), .ref (q 1), .ref (q 2), .ref (q 3), .ref (q 4), .ref (q 5), .ref (q 6), .ref (q 7), .ref (q 8), .int (iZ ((σ 0) 9)), .ref (q 9), .long (lZ ((σ 0) 11)), .int (iZ ((σ 0) 12)), .ref (q 10), .long (lZ ((σ 0) 14)), .long (lZ ((σ 0) 15)), .long (lZ ((σ 0) 16)), .int (iZ ((σ 0) 17)), .ref (q 11), .long (lZ ((σ 0) 19)), .long (lZ ((σ 0) 20)), .ref (q 12)]) C 0 7 11 (WD_get (by decide)) rfl (by decide) inlX7 wf_X7_91 rfl hd kk
theorem pf_X7_91 {g : Gx} {K : Kx} {cc : ByteArray} {n fr lo : Nat} {q : Nat → Nat} {σ : Nat → Nat → Int} {pc : Nat} {lv : List (Nat × Value)} {rest : List Value} {z : Int} (C : CX g K cc RX7 n fr lo) (hd : decode cc pc = .ok (.putfield 91, 3)) (kk : GJ g K (WM g q (up σ 0 11 z)) (pc + 3) lv rest) : GJ g K (WM g q σ) pc lv (.long (lZ z) :: .ref (q 0) :: rest) :=
  g_put (fs := [.int (iZ ((σ 0) 0)), .ref (q 1), .ref (q 2), .ref (q 3), .ref (q 4), .ref (q 5), .ref (q 6), .ref (q 7), .ref (q 8), .int (iZ ((σ 0) 9)), .ref (q 9), .long (lZ ((σ 0) 11)), .int (iZ ((σ 0) 12)), .ref (q 10), .long (lZ ((σ 0) 14)), .long (lZ ((σ 0) 15)), .long (lZ ((σ 0) 16)), .int (iZ ((σ 0) 17)), .ref (q 11), .long (lZ ((σ 0) 19)), .long (lZ ((σ 0) 20)), .ref (q 12)]) C 0 7 11 tyX7 (WD_get (by decide)) rfl (by decide) inlX7 tyX7_ok nmX7 wf_X7_91 rfl rfl rfl (Nat.le_of_ble_eq_true rfl) (WD_set (updI (σ 0) 11 z)) hd kk
theorem gf_X7_128 {g : Gx} {K : Kx} {cc : ByteArray} {n fr lo : Nat} {q : Nat → Nat} {σ : Nat → Nat → Int} {pc : Nat} {lv : List (Nat × Value)} {rest : List Value} (C : CX g K cc RX7 n fr lo) (hd : decode cc pc = .ok (.getfield 128, 3)) (kk : GJ g K (WM g q σ) (pc + 3) lv (.long (lZ (σ 0 14)) :: rest)) : GJ g K (WM g q σ) pc lv (.ref (q 0) :: rest) :=
  g_get (fs := [.int (iZ ((σ 0) 0)), .ref (q 1), .ref (q 2), .ref (q 3), .ref (q 4), .ref (q 5), .ref (q 6), .ref (q 7), .ref (q 8), .int (iZ ((σ 0) 9)), .ref (q 9), .long (lZ ((σ 0) 11)), .int (iZ ((σ 0) 12)), .ref (q 10), .long (lZ ((σ 0) 14)), .long (lZ ((σ 0) 15)), .long (lZ ((σ 0) 16)), .int (iZ ((σ 0) 17)), .ref (q 11), .long (lZ ((σ 0) 19)), .long (lZ ((σ 0) 20)), .ref (q 12)]) C 0 7 14 (WD_get (by decide)) rfl (by decide) inlX7 wf_X7_128 rfl hd kk
theorem pf_X7_128 {g : Gx} {K : Kx} {cc : ByteArray} {n fr lo : Nat} {q : Nat → Nat} {σ : Nat → Nat → Int} {pc : Nat} {lv : List (Nat × Value)} {rest : List Value} {z : Int} (C : CX g K cc RX7 n fr lo) (hd : decode cc pc = .ok (.putfield 128, 3)) (kk : GJ g K (WM g q (up σ 0 14 z)) (pc + 3) lv rest) : GJ g K (WM g q σ) pc lv (.long (lZ z) :: .ref (q 0) :: rest) :=
  g_put (fs := [.int (iZ ((σ 0) 0)), .ref (q 1), .ref (q 2), .ref (q 3), .ref (q 4), .ref (q 5), .ref (q 6), .ref (q 7), .ref (q 8), .int (iZ ((σ 0) 9)), .ref (q 9), .long (lZ ((σ 0) 11)), .int (iZ ((σ 0) 12)), .ref (q 10), .long (lZ ((σ 0) 14)), .long (lZ ((σ 0) 15)), .long (lZ ((σ 0) 16)), .int (iZ ((σ 0) 17)), .ref (q 11), .long (lZ ((σ 0) 19)), .long (lZ ((σ 0) 20)), .ref (q 12)]) C 0 7 14 tyX7 (WD_get (by decide)) rfl (by decide) inlX7 tyX7_ok nmX7 wf_X7_128 rfl rfl rfl (Nat.le_of_ble_eq_true rfl) (WD_set (updI (σ 0) 14 z)) hd kk
theorem gf_X7_135 {g : Gx} {K : Kx} {cc : ByteArray} {n fr lo : Nat} {q : Nat → Nat} {σ : Nat → Nat → Int} {pc : Nat} {lv : List (Nat × Value)} {rest : List Value} (C : CX g K cc RX7 n fr lo) (hd : decode cc pc = .ok (.getfield 135, 3)) (kk : GJ g K (WM g q σ) (pc + 3) lv (.long (lZ (σ 0 15)) :: rest)) : GJ g K (WM g q σ) pc lv (.ref (q 0) :: rest) :=
  g_get (fs := [.int (iZ ((σ 0) 0)), .ref (q 1), .ref (q 2), .ref (q 3), .ref (q 4), .ref (q 5), .ref (q 6), .ref (q 7), .ref (q 8), .int (iZ ((σ 0) 9)), .ref (q 9), .long (lZ ((σ 0) 11)), .int (iZ ((σ 0) 12)), .ref (q 10), .long (lZ ((σ 0) 14)), .long (lZ ((σ 0) 15)), .long (lZ ((σ 0) 16)), .int (iZ ((σ 0) 17)), .ref (q 11), .long (lZ ((σ 0) 19)), .long (lZ ((σ 0) 20)), .ref (q 12)]) C 0 7 15 (WD_get (by decide)) rfl (by decide) inlX7 wf_X7_135 rfl hd kk
theorem pf_X7_135 {g : Gx} {K : Kx} {cc : ByteArray} {n fr lo : Nat} {q : Nat → Nat} {σ : Nat → Nat → Int} {pc : Nat} {lv : List (Nat × Value)} {rest : List Value} {z : Int} (C : CX g K cc RX7 n fr lo) (hd : decode cc pc = .ok (.putfield 135, 3)) (kk : GJ g K (WM g q (up σ 0 15 z)) (pc + 3) lv rest) : GJ g K (WM g q σ) pc lv (.long (lZ z) :: .ref (q 0) :: rest) :=
  g_put (fs := [.int (iZ ((σ 0) 0)), .ref (q 1), .ref (q 2), .ref (q 3), .ref (q 4), .ref (q 5), .ref (q 6), .ref (q 7), .ref (q 8), .int (iZ ((σ 0) 9)), .ref (q 9), .long (lZ ((σ 0) 11)), .int (iZ ((σ 0) 12)), .ref (q 10), .long (lZ ((σ 0) 14)), .long (lZ ((σ 0) 15)), .long (lZ ((σ 0) 16)), .int (iZ ((σ 0) 17)), .ref (q 11), .long (lZ ((σ 0) 19)), .long (lZ ((σ 0) 20)), .ref (q 12)]) C 0 7 15 tyX7 (WD_get (by decide)) rfl (by decide) inlX7 tyX7_ok nmX7 wf_X7_135 rfl rfl rfl (Nat.le_of_ble_eq_true rfl) (WD_set (updI (σ 0) 15 z)) hd kk
theorem gf_X7_138 {g : Gx} {K : Kx} {cc : ByteArray} {n fr lo : Nat} {q : Nat → Nat} {σ : Nat → Nat → Int} {pc : Nat} {lv : List (Nat × Value)} {rest : List Value} (C : CX g K cc RX7 n fr lo) (hd : decode cc pc = .ok (.getfield 138, 3)) (kk : GJ g K (WM g q σ) (pc + 3) lv (.long (lZ (σ 0 16)) :: rest)) : GJ g K (WM g q σ) pc lv (.ref (q 0) :: rest) :=
  g_get (fs := [.int (iZ ((σ 0) 0)), .ref (q 1), .ref (q 2), .ref (q 3), .ref (q 4), .ref (q 5), .ref (q 6), .ref (q 7), .ref (q 8), .int (iZ ((σ 0) 9)), .ref (q 9), .long (lZ ((σ 0) 11)), .int (iZ ((σ 0) 12)), .ref (q 10), .long (lZ ((σ 0) 14)), .long (lZ ((σ 0) 15)), .long (lZ ((σ 0) 16)), .int (iZ ((σ 0) 17)), .ref (q 11), .long (lZ ((σ 0) 19)), .long (lZ ((σ 0) 20)), .ref (q 12)]) C 0 7 16 (WD_get (by decide)) rfl (by decide) inlX7 wf_X7_138 rfl hd kk
theorem pf_X7_138 {g : Gx} {K : Kx} {cc : ByteArray} {n fr lo : Nat} {q : Nat → Nat} {σ : Nat → Nat → Int} {pc : Nat} {lv : List (Nat × Value)} {rest : List Value} {z : Int} (C : CX g K cc RX7 n fr lo) (hd : decode cc pc = .ok (.putfield 138, 3)) (kk : GJ g K (WM g q (up σ 0 16 z)) (pc + 3) lv rest) : GJ g K (WM g q σ) pc lv (.long (lZ z) :: .ref (q 0) :: rest) :=
  g_put (fs := [.int (iZ ((σ 0) 0)), .ref (q 1), .ref (q 2), .ref (q 3), .ref (q 4), .ref (q 5), .ref (q 6), .ref (q 7), .ref (q 8), .int (iZ ((σ 0) 9)), .ref (q 9), .long (lZ ((σ 0) 11)), .int (iZ ((σ 0) 12)), .ref (q 10), .long (lZ ((σ 0) 14)), .long (lZ ((σ 0) 15)), .long (lZ ((σ 0) 16)), .int (iZ ((σ 0) 17)), .ref (q 11), .long (lZ ((σ 0) 19)), .long (lZ ((σ 0) 20)), .ref (q 12)]) C 0 7 16 tyX7 (WD_get (by decide)) rfl (by decide) inlX7 tyX7_ok nmX7 wf_X7_138 rfl rfl rfl (Nat.le_of_ble_eq_true rfl) (WD_set (updI (σ 0) 16 z)) hd kk
theorem gf_X6_152 {g : Gx} {K : Kx} {cc : ByteArray} {n fr lo : Nat} {q : Nat → Nat} {σ : Nat → Nat → Int} {pc : Nat} {lv : List (Nat × Value)} {rest : List Value} {c : Nat} (hc : c = 24 ∨ c = 25) (C : CX g K cc RX6 n fr lo) (hd : decode cc pc = .ok (.getfield 152, 3)) (kk : GJ g K (WC g q σ) (pc + 3) lv (.long (lZ (σ c 0)) :: rest)) : GJ g K (WC g q σ) pc lv (.ref (q c) :: rest) :=
  g_get (fs := [.long (lZ ((σ c) 0)), .long (lZ ((σ c) 1))]) C c 2 0 ((WD_get (by omega)).trans (by rw [EC_frac hc])) rfl (by decide) inlX2 wf_X6_152 rfl hd kk
theorem pf_X6_152 {g : Gx} {K : Kx} {cc : ByteArray} {n fr lo : Nat} {q : Nat → Nat} {σ : Nat → Nat → Int} {pc : Nat} {lv : List (Nat × Value)} {rest : List Value} {c : Nat} (hc : c = 24 ∨ c = 25) {z : Int} (C : CX g K cc RX6 n fr lo) (hd : decode cc pc = .ok (.putfield 152, 3)) (kk : GJ g K (WC g q (up σ c 0 z)) (pc + 3) lv rest) : GJ g K (WC g q σ) pc lv (.long (lZ z) :: .ref (q c) :: rest) :=
  g_put (fs := [.long (lZ ((σ c) 0)), .long (lZ ((σ c) 1))]) C c 2 0 tyX2 ((WD_get (by omega)).trans (by rw [EC_frac hc])) rfl (by decide) inlX2 tyX2_ok nmX2 wf_X6_152 rfl rfl rfl (Nat.le_of_ble_eq_true rfl) (by rw [show (Sum.inr (2, ([.long (lZ ((σ c) 0)), .long (lZ ((σ c) 1))] : List Value).set 0 (.long (lZ z))) : va_E) = EC g q c (updI (σ c) 0 z) from (EC_frac hc (updI (σ c) 0 z)).symm]; exact WD_set _) hd kk
theorem gf_X6_158 {g : Gx} {K : Kx} {cc : ByteArray} {n fr lo : Nat} {q : Nat → Nat} {σ : Nat → Nat → Int} {pc : Nat} {lv : List (Nat × Value)} {rest : List Value} {c : Nat} (hc : c = 24 ∨ c = 25) (C : CX g K cc RX6 n fr lo) (hd : decode cc pc = .ok (.getfield 158, 3)) (kk : GJ g K (WC g q σ) (pc + 3) lv (.long (lZ (σ c 1)) :: rest)) : GJ g K (WC g q σ) pc lv (.ref (q c) :: rest) :=
  g_get (fs := [.long (lZ ((σ c) 0)), .long (lZ ((σ c) 1))]) C c 2 1 ((WD_get (by omega)).trans (by rw [EC_frac hc])) rfl (by decide) inlX2 wf_X6_158 rfl hd kk
theorem pf_X6_158 {g : Gx} {K : Kx} {cc : ByteArray} {n fr lo : Nat} {q : Nat → Nat} {σ : Nat → Nat → Int} {pc : Nat} {lv : List (Nat × Value)} {rest : List Value} {c : Nat} (hc : c = 24 ∨ c = 25) {z : Int} (C : CX g K cc RX6 n fr lo) (hd : decode cc pc = .ok (.putfield 158, 3)) (kk : GJ g K (WC g q (up σ c 1 z)) (pc + 3) lv rest) : GJ g K (WC g q σ) pc lv (.long (lZ z) :: .ref (q c) :: rest) :=
  g_put (fs := [.long (lZ ((σ c) 0)), .long (lZ ((σ c) 1))]) C c 2 1 tyX2 ((WD_get (by omega)).trans (by rw [EC_frac hc])) rfl (by decide) inlX2 tyX2_ok nmX2 wf_X6_158 rfl rfl rfl (Nat.le_of_ble_eq_true rfl) (by rw [show (Sum.inr (2, ([.long (lZ ((σ c) 0)), .long (lZ ((σ c) 1))] : List Value).set 1 (.long (lZ z))) : va_E) = EC g q c (updI (σ c) 1 z) from (EC_frac hc (updI (σ c) 1 z)).symm]; exact WD_set _) hd kk
theorem gf_X3_23 {g : Gx} {K : Kx} {cc : ByteArray} {n fr lo : Nat} {q : Nat → Nat} {σ : Nat → Nat → Int} {pc : Nat} {lv : List (Nat × Value)} {rest : List Value} {c : Nat} (hc : c = 24 ∨ c = 25) (C : CX g K cc RX3 n fr lo) (hd : decode cc pc = .ok (.getfield 23, 3)) (kk : GJ g K (WC g q σ) (pc + 3) lv (.long (lZ (σ c 0)) :: rest)) : GJ g K (WC g q σ) pc lv (.ref (q c) :: rest) :=
  g_get (fs := [.long (lZ ((σ c) 0)), .long (lZ ((σ c) 1))]) C c 2 0 ((WD_get (by omega)).trans (by rw [EC_frac hc])) rfl (by decide) inlX2 wf_X3_23 rfl hd kk
theorem pf_X3_23 {g : Gx} {K : Kx} {cc : ByteArray} {n fr lo : Nat} {q : Nat → Nat} {σ : Nat → Nat → Int} {pc : Nat} {lv : List (Nat × Value)} {rest : List Value} {c : Nat} (hc : c = 24 ∨ c = 25) {z : Int} (C : CX g K cc RX3 n fr lo) (hd : decode cc pc = .ok (.putfield 23, 3)) (kk : GJ g K (WC g q (up σ c 0 z)) (pc + 3) lv rest) : GJ g K (WC g q σ) pc lv (.long (lZ z) :: .ref (q c) :: rest) :=
  g_put (fs := [.long (lZ ((σ c) 0)), .long (lZ ((σ c) 1))]) C c 2 0 tyX2 ((WD_get (by omega)).trans (by rw [EC_frac hc])) rfl (by decide) inlX2 tyX2_ok nmX2 wf_X3_23 rfl rfl rfl (Nat.le_of_ble_eq_true rfl) (by rw [show (Sum.inr (2, ([.long (lZ ((σ c) 0)), .long (lZ ((σ c) 1))] : List Value).set 0 (.long (lZ z))) : va_E) = EC g q c (updI (σ c) 0 z) from (EC_frac hc (updI (σ c) 0 z)).symm]; exact WD_set _) hd kk
theorem gf_X3_28 {g : Gx} {K : Kx} {cc : ByteArray} {n fr lo : Nat} {q : Nat → Nat} {σ : Nat → Nat → Int} {pc : Nat} {lv : List (Nat × Value)} {rest : List Value} (C : CX g K cc RX3 n fr lo) (hd : decode cc pc = .ok (.getfield 28, 3)) (kk : GJ g K (WC g q σ) (pc + 3) lv (.long (lZ (σ 11 1)) :: rest)) : GJ g K (WC g q σ) pc lv (.ref (q 11) :: rest) :=
  g_get (fs := [.ref (q 1), .long (lZ ((σ 11) 1)), .long (lZ ((σ 11) 2)), .long (lZ ((σ 11) 3)), .long (lZ ((σ 11) 4)), .long (lZ ((σ 11) 5)), .long (lZ ((σ 11) 6))]) C 11 3 1 (WD_get (by decide)) rfl (by decide) inlX3 wf_X3_28 rfl hd kk
theorem pf_X3_28 {g : Gx} {K : Kx} {cc : ByteArray} {n fr lo : Nat} {q : Nat → Nat} {σ : Nat → Nat → Int} {pc : Nat} {lv : List (Nat × Value)} {rest : List Value} {z : Int} (C : CX g K cc RX3 n fr lo) (hd : decode cc pc = .ok (.putfield 28, 3)) (kk : GJ g K (WC g q (up σ 11 1 z)) (pc + 3) lv rest) : GJ g K (WC g q σ) pc lv (.long (lZ z) :: .ref (q 11) :: rest) :=
  g_put (fs := [.ref (q 1), .long (lZ ((σ 11) 1)), .long (lZ ((σ 11) 2)), .long (lZ ((σ 11) 3)), .long (lZ ((σ 11) 4)), .long (lZ ((σ 11) 5)), .long (lZ ((σ 11) 6))]) C 11 3 1 tyX3 (WD_get (by decide)) rfl (by decide) inlX3 tyX3_ok nmX3 wf_X3_28 rfl rfl rfl (Nat.le_of_ble_eq_true rfl) (WD_set (updI (σ 11) 1 z)) hd kk
theorem gf_X3_31 {g : Gx} {K : Kx} {cc : ByteArray} {n fr lo : Nat} {q : Nat → Nat} {σ : Nat → Nat → Int} {pc : Nat} {lv : List (Nat × Value)} {rest : List Value} {c : Nat} (hc : c = 24 ∨ c = 25) (C : CX g K cc RX3 n fr lo) (hd : decode cc pc = .ok (.getfield 31, 3)) (kk : GJ g K (WC g q σ) (pc + 3) lv (.long (lZ (σ c 1)) :: rest)) : GJ g K (WC g q σ) pc lv (.ref (q c) :: rest) :=
  g_get (fs := [.long (lZ ((σ c) 0)), .long (lZ ((σ c) 1))]) C c 2 1 ((WD_get (by omega)).trans (by rw [EC_frac hc])) rfl (by decide) inlX2 wf_X3_31 rfl hd kk
theorem pf_X3_31 {g : Gx} {K : Kx} {cc : ByteArray} {n fr lo : Nat} {q : Nat → Nat} {σ : Nat → Nat → Int} {pc : Nat} {lv : List (Nat × Value)} {rest : List Value} {c : Nat} (hc : c = 24 ∨ c = 25) {z : Int} (C : CX g K cc RX3 n fr lo) (hd : decode cc pc = .ok (.putfield 31, 3)) (kk : GJ g K (WC g q (up σ c 1 z)) (pc + 3) lv rest) : GJ g K (WC g q σ) pc lv (.long (lZ z) :: .ref (q c) :: rest) :=
  g_put (fs := [.long (lZ ((σ c) 0)), .long (lZ ((σ c) 1))]) C c 2 1 tyX2 ((WD_get (by omega)).trans (by rw [EC_frac hc])) rfl (by decide) inlX2 tyX2_ok nmX2 wf_X3_31 rfl rfl rfl (Nat.le_of_ble_eq_true rfl) (by rw [show (Sum.inr (2, ([.long (lZ ((σ c) 0)), .long (lZ ((σ c) 1))] : List Value).set 1 (.long (lZ z))) : va_E) = EC g q c (updI (σ c) 1 z) from (EC_frac hc (updI (σ c) 1 z)).symm]; exact WD_set _) hd kk
theorem gf_X3_44 {g : Gx} {K : Kx} {cc : ByteArray} {n fr lo : Nat} {q : Nat → Nat} {σ : Nat → Nat → Int} {pc : Nat} {lv : List (Nat × Value)} {rest : List Value} (C : CX g K cc RX3 n fr lo) (hd : decode cc pc = .ok (.getfield 44, 3)) (kk : GJ g K (WC g q σ) (pc + 3) lv (.long (lZ (σ 11 3)) :: rest)) : GJ g K (WC g q σ) pc lv (.ref (q 11) :: rest) :=
  g_get (fs := [.ref (q 1), .long (lZ ((σ 11) 1)), .long (lZ ((σ 11) 2)), .long (lZ ((σ 11) 3)), .long (lZ ((σ 11) 4)), .long (lZ ((σ 11) 5)), .long (lZ ((σ 11) 6))]) C 11 3 3 (WD_get (by decide)) rfl (by decide) inlX3 wf_X3_44 rfl hd kk
theorem pf_X3_44 {g : Gx} {K : Kx} {cc : ByteArray} {n fr lo : Nat} {q : Nat → Nat} {σ : Nat → Nat → Int} {pc : Nat} {lv : List (Nat × Value)} {rest : List Value} {z : Int} (C : CX g K cc RX3 n fr lo) (hd : decode cc pc = .ok (.putfield 44, 3)) (kk : GJ g K (WC g q (up σ 11 3 z)) (pc + 3) lv rest) : GJ g K (WC g q σ) pc lv (.long (lZ z) :: .ref (q 11) :: rest) :=
  g_put (fs := [.ref (q 1), .long (lZ ((σ 11) 1)), .long (lZ ((σ 11) 2)), .long (lZ ((σ 11) 3)), .long (lZ ((σ 11) 4)), .long (lZ ((σ 11) 5)), .long (lZ ((σ 11) 6))]) C 11 3 3 tyX3 (WD_get (by decide)) rfl (by decide) inlX3 tyX3_ok nmX3 wf_X3_44 rfl rfl rfl (Nat.le_of_ble_eq_true rfl) (WD_set (updI (σ 11) 3 z)) hd kk
theorem gf_X3_47 {g : Gx} {K : Kx} {cc : ByteArray} {n fr lo : Nat} {q : Nat → Nat} {σ : Nat → Nat → Int} {pc : Nat} {lv : List (Nat × Value)} {rest : List Value} (C : CX g K cc RX3 n fr lo) (hd : decode cc pc = .ok (.getfield 47, 3)) (kk : GJ g K (WC g q σ) (pc + 3) lv (.int (iZ (σ 1 0)) :: rest)) : GJ g K (WC g q σ) pc lv (.ref (q 1) :: rest) :=
  g_get (fs := [.int (iZ ((σ 1) 0)), .ref (q 2), .ref (q 3), .ref (q 4), .ref (q 5), .ref (q 6)]) C 1 0 0 (WD_get (by decide)) rfl (by decide) inlX0 wf_X3_47 rfl hd kk
theorem pf_X3_47 {g : Gx} {K : Kx} {cc : ByteArray} {n fr lo : Nat} {q : Nat → Nat} {σ : Nat → Nat → Int} {pc : Nat} {lv : List (Nat × Value)} {rest : List Value} {z : Int} (C : CX g K cc RX3 n fr lo) (hd : decode cc pc = .ok (.putfield 47, 3)) (kk : GJ g K (WC g q (up σ 1 0 z)) (pc + 3) lv rest) : GJ g K (WC g q σ) pc lv (.int (iZ z) :: .ref (q 1) :: rest) :=
  g_put (fs := [.int (iZ ((σ 1) 0)), .ref (q 2), .ref (q 3), .ref (q 4), .ref (q 5), .ref (q 6)]) C 1 0 0 tyX0 (WD_get (by decide)) rfl (by decide) inlX0 tyX0_ok nmX0 wf_X3_47 rfl rfl rfl (Nat.le_of_ble_eq_true rfl) (WD_set (updI (σ 1) 0 z)) hd kk
theorem gf_X3_53 {g : Gx} {K : Kx} {cc : ByteArray} {n fr lo : Nat} {q : Nat → Nat} {σ : Nat → Nat → Int} {pc : Nat} {lv : List (Nat × Value)} {rest : List Value} (C : CX g K cc RX3 n fr lo) (hd : decode cc pc = .ok (.getfield 53, 3)) (kk : GJ g K (WC g q σ) (pc + 3) lv (.ref (q 2) :: rest)) : GJ g K (WC g q σ) pc lv (.ref (q 1) :: rest) :=
  g_get (fs := [.int (iZ ((σ 1) 0)), .ref (q 2), .ref (q 3), .ref (q 4), .ref (q 5), .ref (q 6)]) C 1 0 1 (WD_get (by decide)) rfl (by decide) inlX0 wf_X3_53 rfl hd kk
theorem gf_X3_74 {g : Gx} {K : Kx} {cc : ByteArray} {n fr lo : Nat} {q : Nat → Nat} {σ : Nat → Nat → Int} {pc : Nat} {lv : List (Nat × Value)} {rest : List Value} (C : CX g K cc RX3 n fr lo) (hd : decode cc pc = .ok (.getfield 74, 3)) (kk : GJ g K (WC g q σ) (pc + 3) lv (.ref (q 3) :: rest)) : GJ g K (WC g q σ) pc lv (.ref (q 1) :: rest) :=
  g_get (fs := [.int (iZ ((σ 1) 0)), .ref (q 2), .ref (q 3), .ref (q 4), .ref (q 5), .ref (q 6)]) C 1 0 2 (WD_get (by decide)) rfl (by decide) inlX0 wf_X3_74 rfl hd kk
theorem gf_X3_67 {g : Gx} {K : Kx} {cc : ByteArray} {n fr lo : Nat} {q : Nat → Nat} {σ : Nat → Nat → Int} {pc : Nat} {lv : List (Nat × Value)} {rest : List Value} (C : CX g K cc RX3 n fr lo) (hd : decode cc pc = .ok (.getfield 67, 3)) (kk : GJ g K (WC g q σ) (pc + 3) lv (.ref (q 6) :: rest)) : GJ g K (WC g q σ) pc lv (.ref (q 1) :: rest) :=
  g_get (fs := [.int (iZ ((σ 1) 0)), .ref (q 2), .ref (q 3), .ref (q 4), .ref (q 5), .ref (q 6)]) C 1 0 5 (WD_get (by decide)) rfl (by decide) inlX0 wf_X3_67 rfl hd kk
theorem gf_X3_77 {g : Gx} {K : Kx} {cc : ByteArray} {n fr lo : Nat} {q : Nat → Nat} {σ : Nat → Nat → Int} {pc : Nat} {lv : List (Nat × Value)} {rest : List Value} (C : CX g K cc RX3 n fr lo) (hd : decode cc pc = .ok (.getfield 77, 3)) (kk : GJ g K (WC g q σ) (pc + 3) lv (.ref (q 4) :: rest)) : GJ g K (WC g q σ) pc lv (.ref (q 1) :: rest) :=
  g_get (fs := [.int (iZ ((σ 1) 0)), .ref (q 2), .ref (q 3), .ref (q 4), .ref (q 5), .ref (q 6)]) C 1 0 3 (WD_get (by decide)) rfl (by decide) inlX0 wf_X3_77 rfl hd kk
theorem gf_X3_60 {g : Gx} {K : Kx} {cc : ByteArray} {n fr lo : Nat} {q : Nat → Nat} {σ : Nat → Nat → Int} {pc : Nat} {lv : List (Nat × Value)} {rest : List Value} (C : CX g K cc RX3 n fr lo) (hd : decode cc pc = .ok (.getfield 60, 3)) (kk : GJ g K (WC g q σ) (pc + 3) lv (.long (lZ (σ 11 5)) :: rest)) : GJ g K (WC g q σ) pc lv (.ref (q 11) :: rest) :=
  g_get (fs := [.ref (q 1), .long (lZ ((σ 11) 1)), .long (lZ ((σ 11) 2)), .long (lZ ((σ 11) 3)), .long (lZ ((σ 11) 4)), .long (lZ ((σ 11) 5)), .long (lZ ((σ 11) 6))]) C 11 3 5 (WD_get (by decide)) rfl (by decide) inlX3 wf_X3_60 rfl hd kk
theorem pf_X3_60 {g : Gx} {K : Kx} {cc : ByteArray} {n fr lo : Nat} {q : Nat → Nat} {σ : Nat → Nat → Int} {pc : Nat} {lv : List (Nat × Value)} {rest : List Value} {z : Int} (C : CX g K cc RX3 n fr lo) (hd : decode cc pc = .ok (.putfield 60, 3)) (kk : GJ g K (WC g q (up σ 11 5 z)) (pc + 3) lv rest) : GJ g K (WC g q σ) pc lv (.long (lZ z) :: .ref (q 11) :: rest) :=
  g_put (fs := [.ref (q 1), .long (lZ ((σ 11) 1)), .long (lZ ((σ 11) 2)), .long (lZ ((σ 11) 3)), .long (lZ ((σ 11) 4)), .long (lZ ((σ 11) 5)), .long (lZ ((σ 11) 6))]) C 11 3 5 tyX3 (WD_get (by decide)) rfl (by decide) inlX3 tyX3_ok nmX3 wf_X3_60 rfl rfl rfl (Nat.le_of_ble_eq_true rfl) (WD_set (updI (σ 11) 5 z)) hd kk
theorem gf_X6_190 {g : Gx} {K : Kx} {cc : ByteArray} {n fr lo : Nat} {q : Nat → Nat} {σ : Nat → Nat → Int} {pc : Nat} {lv : List (Nat × Value)} {rest : List Value} (C : CX g K cc RX6 n fr lo) (hd : decode cc pc = .ok (.getfield 190, 3)) (kk : GJ g K (WC g q σ) (pc + 3) lv (.int (iZ (σ 12 1)) :: rest)) : GJ g K (WC g q σ) pc lv (.ref (q 12) :: rest) :=
  g_get (fs := [.ref (q 1), .int (iZ ((σ 12) 1)), .ref (q 13)]) C 12 1 1 (WD_get (by decide)) rfl (by decide) inlX1 wf_X6_190 rfl hd kk
theorem pf_X6_190 {g : Gx} {K : Kx} {cc : ByteArray} {n fr lo : Nat} {q : Nat → Nat} {σ : Nat → Nat → Int} {pc : Nat} {lv : List (Nat × Value)} {rest : List Value} {z : Int} (C : CX g K cc RX6 n fr lo) (hd : decode cc pc = .ok (.putfield 190, 3)) (kk : GJ g K (WC g q (up σ 12 1 z)) (pc + 3) lv rest) : GJ g K (WC g q σ) pc lv (.int (iZ z) :: .ref (q 12) :: rest) :=
  g_put (fs := [.ref (q 1), .int (iZ ((σ 12) 1)), .ref (q 13)]) C 12 1 1 tyX1 (WD_get (by decide)) rfl (by decide) inlX1 tyX1_ok nmX1 wf_X6_190 rfl rfl rfl (Nat.le_of_ble_eq_true rfl) (WD_set (updI (σ 12) 1 z)) hd kk
theorem gf_X6_193 {g : Gx} {K : Kx} {cc : ByteArray} {n fr lo : Nat} {q : Nat → Nat} {σ : Nat → Nat → Int} {pc : Nat} {lv : List (Nat × Value)} {rest : List Value} (C : CX g K cc RX6 n fr lo) (hd : decode cc pc = .ok (.getfield 193, 3)) (kk : GJ g K (WC g q σ) (pc + 3) lv (.ref (q 13) :: rest)) : GJ g K (WC g q σ) pc lv (.ref (q 12) :: rest) :=
  g_get (fs := [.ref (q 1), .int (iZ ((σ 12) 1)), .ref (q 13)]) C 12 1 2 (WD_get (by decide)) rfl (by decide) inlX1 wf_X6_193 rfl hd kk
theorem gf_X1_19 {g : Gx} {K : Kx} {cc : ByteArray} {n fr lo : Nat} {q : Nat → Nat} {σ : Nat → Nat → Int} {pc : Nat} {lv : List (Nat × Value)} {rest : List Value} (C : CX g K cc RX1 n fr lo) (hd : decode cc pc = .ok (.getfield 19, 3)) (kk : GJ g K (WC g q σ) (pc + 3) lv (.int (iZ (σ 12 1)) :: rest)) : GJ g K (WC g q σ) pc lv (.ref (q 12) :: rest) :=
  g_get (fs := [.ref (q 1), .int (iZ ((σ 12) 1)), .ref (q 13)]) C 12 1 1 (WD_get (by decide)) rfl (by decide) inlX1 wf_X1_19 rfl hd kk
theorem pf_X1_19 {g : Gx} {K : Kx} {cc : ByteArray} {n fr lo : Nat} {q : Nat → Nat} {σ : Nat → Nat → Int} {pc : Nat} {lv : List (Nat × Value)} {rest : List Value} {z : Int} (C : CX g K cc RX1 n fr lo) (hd : decode cc pc = .ok (.putfield 19, 3)) (kk : GJ g K (WC g q (up σ 12 1 z)) (pc + 3) lv rest) : GJ g K (WC g q σ) pc lv (.int (iZ z) :: .ref (q 12) :: rest) :=
  g_put (fs := [.ref (q 1), .int (iZ ((σ 12) 1)), .ref (q 13)]) C 12 1 1 tyX1 (WD_get (by decide)) rfl (by decide) inlX1 tyX1_ok nmX1 wf_X1_19 rfl rfl rfl (Nat.le_of_ble_eq_true rfl) (WD_set (updI (σ 12) 1 z)) hd kk
theorem gf_X1_27 {g : Gx} {K : Kx} {cc : ByteArray} {n fr lo : Nat} {q : Nat → Nat} {σ : Nat → Nat → Int} {pc : Nat} {lv : List (Nat × Value)} {rest : List Value} (C : CX g K cc RX1 n fr lo) (hd : decode cc pc = .ok (.getfield 27, 3)) (kk : GJ g K (WC g q σ) (pc + 3) lv (.int (iZ (σ 1 0)) :: rest)) : GJ g K (WC g q σ) pc lv (.ref (q 1) :: rest) :=
  g_get (fs := [.int (iZ ((σ 1) 0)), .ref (q 2), .ref (q 3), .ref (q 4), .ref (q 5), .ref (q 6)]) C 1 0 0 (WD_get (by decide)) rfl (by decide) inlX0 wf_X1_27 rfl hd kk
theorem pf_X1_27 {g : Gx} {K : Kx} {cc : ByteArray} {n fr lo : Nat} {q : Nat → Nat} {σ : Nat → Nat → Int} {pc : Nat} {lv : List (Nat × Value)} {rest : List Value} {z : Int} (C : CX g K cc RX1 n fr lo) (hd : decode cc pc = .ok (.putfield 27, 3)) (kk : GJ g K (WC g q (up σ 1 0 z)) (pc + 3) lv rest) : GJ g K (WC g q σ) pc lv (.int (iZ z) :: .ref (q 1) :: rest) :=
  g_put (fs := [.int (iZ ((σ 1) 0)), .ref (q 2), .ref (q 3), .ref (q 4), .ref (q 5), .ref (q 6)]) C 1 0 0 tyX0 (WD_get (by decide)) rfl (by decide) inlX0 tyX0_ok nmX0 wf_X1_27 rfl rfl rfl (Nat.le_of_ble_eq_true rfl) (WD_set (updI (σ 1) 0 z)) hd kk
theorem gf_X1_54 {g : Gx} {K : Kx} {cc : ByteArray} {n fr lo : Nat} {q : Nat → Nat} {σ : Nat → Nat → Int} {pc : Nat} {lv : List (Nat × Value)} {rest : List Value} (C : CX g K cc RX1 n fr lo) (hd : decode cc pc = .ok (.getfield 54, 3)) (kk : GJ g K (WC g q σ) (pc + 3) lv (.ref (q 4) :: rest)) : GJ g K (WC g q σ) pc lv (.ref (q 1) :: rest) :=
  g_get (fs := [.int (iZ ((σ 1) 0)), .ref (q 2), .ref (q 3), .ref (q 4), .ref (q 5), .ref (q 6)]) C 1 0 3 (WD_get (by decide)) rfl (by decide) inlX0 wf_X1_54 rfl hd kk
theorem gf_X1_57 {g : Gx} {K : Kx} {cc : ByteArray} {n fr lo : Nat} {q : Nat → Nat} {σ : Nat → Nat → Int} {pc : Nat} {lv : List (Nat × Value)} {rest : List Value} (C : CX g K cc RX1 n fr lo) (hd : decode cc pc = .ok (.getfield 57, 3)) (kk : GJ g K (WC g q σ) (pc + 3) lv (.ref (q 3) :: rest)) : GJ g K (WC g q σ) pc lv (.ref (q 1) :: rest) :=
  g_get (fs := [.int (iZ ((σ 1) 0)), .ref (q 2), .ref (q 3), .ref (q 4), .ref (q 5), .ref (q 6)]) C 1 0 2 (WD_get (by decide)) rfl (by decide) inlX0 wf_X1_57 rfl hd kk
theorem gf_X7_184 {g : Gx} {K : Kx} {cc : ByteArray} {n fr lo : Nat} {q : Nat → Nat} {σ : Nat → Nat → Int} {pc : Nat} {lv : List (Nat × Value)} {rest : List Value} (C : CX g K cc RX7 n fr lo) (hd : decode cc pc = .ok (.getfield 184, 3)) (kk : GJ g K (WM g q σ) (pc + 3) lv (.int (iZ (σ 0 17)) :: rest)) : GJ g K (WM g q σ) pc lv (.ref (q 0) :: rest) :=
  g_get (fs := [.int (iZ ((σ 0) 0)), .ref (q 1), .ref (q 2), .ref (q 3), .ref (q 4), .ref (q 5), .ref (q 6), .ref (q 7), .ref (q 8), .int (iZ ((σ 0) 9)), .ref (q 9), .long (lZ ((σ 0) 11)), .int (iZ ((σ 0) 12)), .ref (q 10), .long (lZ ((σ 0) 14)), .long (lZ ((σ 0) 15)), .long (lZ ((σ 0) 16)), .int (iZ ((σ 0) 17)), .ref (q 11), .long (lZ ((σ 0) 19)), .long (lZ ((σ 0) 20)), .ref (q 12)]) C 0 7 17 (WD_get (by decide)) rfl (by decide) inlX7 wf_X7_184 rfl hd kk
theorem pf_X7_184 {g : Gx} {K : Kx} {cc : ByteArray} {n fr lo : Nat} {q : Nat → Nat} {σ : Nat → Nat → Int} {pc : Nat} {lv : List (Nat × Value)} {rest : List Value} {z : Int} (C : CX g K cc RX7 n fr lo) (hd : decode cc pc = .ok (.putfield 184, 3)) (kk : GJ g K (WM g q (up σ 0 17 z)) (pc + 3) lv rest) : GJ g K (WM g q σ) pc lv (.int (iZ z) :: .ref (q 0) :: rest) :=
  g_put (fs := [.int (iZ ((σ 0) 0)), .ref (q 1), .ref (q 2), .ref (q 3), .ref (q 4), .ref (q 5), .ref (q 6), .ref (q 7), .ref (q 8), .int (iZ ((σ 0) 9)), .ref (q 9), .long (lZ ((σ 0) 11)), .int (iZ ((σ 0) 12)), .ref (q 10), .long (lZ ((σ 0) 14)), .long (lZ ((σ 0) 15)), .long (lZ ((σ 0) 16)), .int (iZ ((σ 0) 17)), .ref (q 11), .long (lZ ((σ 0) 19)), .long (lZ ((σ 0) 20)), .ref (q 12)]) C 0 7 17 tyX7 (WD_get (by decide)) rfl (by decide) inlX7 tyX7_ok nmX7 wf_X7_184 rfl rfl rfl (Nat.le_of_ble_eq_true rfl) (WD_set (updI (σ 0) 17 z)) hd kk
theorem gf_X5_79 {g : Gx} {K : Kx} {cc : ByteArray} {n fr lo : Nat} {q : Nat → Nat} {σ : Nat → Nat → Int} {pc : Nat} {lv : List (Nat × Value)} {rest : List Value} {c : Nat} (hc : c = 24 ∨ c = 25) (C : CX g K cc RX5 n fr lo) (hd : decode cc pc = .ok (.getfield 79, 3)) (kk : GJ g K (WC g q σ) (pc + 3) lv (.long (lZ (σ c 0)) :: rest)) : GJ g K (WC g q σ) pc lv (.ref (q c) :: rest) :=
  g_get (fs := [.long (lZ ((σ c) 0)), .long (lZ ((σ c) 1))]) C c 2 0 ((WD_get (by omega)).trans (by rw [EC_frac hc])) rfl (by decide) inlX2 wf_X5_79 rfl hd kk
theorem pf_X5_79 {g : Gx} {K : Kx} {cc : ByteArray} {n fr lo : Nat} {q : Nat → Nat} {σ : Nat → Nat → Int} {pc : Nat} {lv : List (Nat × Value)} {rest : List Value} {c : Nat} (hc : c = 24 ∨ c = 25) {z : Int} (C : CX g K cc RX5 n fr lo) (hd : decode cc pc = .ok (.putfield 79, 3)) (kk : GJ g K (WC g q (up σ c 0 z)) (pc + 3) lv rest) : GJ g K (WC g q σ) pc lv (.long (lZ z) :: .ref (q c) :: rest) :=
  g_put (fs := [.long (lZ ((σ c) 0)), .long (lZ ((σ c) 1))]) C c 2 0 tyX2 ((WD_get (by omega)).trans (by rw [EC_frac hc])) rfl (by decide) inlX2 tyX2_ok nmX2 wf_X5_79 rfl rfl rfl (Nat.le_of_ble_eq_true rfl) (by rw [show (Sum.inr (2, ([.long (lZ ((σ c) 0)), .long (lZ ((σ c) 1))] : List Value).set 0 (.long (lZ z))) : va_E) = EC g q c (updI (σ c) 0 z) from (EC_frac hc (updI (σ c) 0 z)).symm]; exact WD_set _) hd kk
theorem gf_X5_83 {g : Gx} {K : Kx} {cc : ByteArray} {n fr lo : Nat} {q : Nat → Nat} {σ : Nat → Nat → Int} {pc : Nat} {lv : List (Nat × Value)} {rest : List Value} {c : Nat} (hc : c = 24 ∨ c = 25) (C : CX g K cc RX5 n fr lo) (hd : decode cc pc = .ok (.getfield 83, 3)) (kk : GJ g K (WC g q σ) (pc + 3) lv (.long (lZ (σ c 1)) :: rest)) : GJ g K (WC g q σ) pc lv (.ref (q c) :: rest) :=
  g_get (fs := [.long (lZ ((σ c) 0)), .long (lZ ((σ c) 1))]) C c 2 1 ((WD_get (by omega)).trans (by rw [EC_frac hc])) rfl (by decide) inlX2 wf_X5_83 rfl hd kk
theorem pf_X5_83 {g : Gx} {K : Kx} {cc : ByteArray} {n fr lo : Nat} {q : Nat → Nat} {σ : Nat → Nat → Int} {pc : Nat} {lv : List (Nat × Value)} {rest : List Value} {c : Nat} (hc : c = 24 ∨ c = 25) {z : Int} (C : CX g K cc RX5 n fr lo) (hd : decode cc pc = .ok (.putfield 83, 3)) (kk : GJ g K (WC g q (up σ c 1 z)) (pc + 3) lv rest) : GJ g K (WC g q σ) pc lv (.long (lZ z) :: .ref (q c) :: rest) :=
  g_put (fs := [.long (lZ ((σ c) 0)), .long (lZ ((σ c) 1))]) C c 2 1 tyX2 ((WD_get (by omega)).trans (by rw [EC_frac hc])) rfl (by decide) inlX2 tyX2_ok nmX2 wf_X5_83 rfl rfl rfl (Nat.le_of_ble_eq_true rfl) (by rw [show (Sum.inr (2, ([.long (lZ ((σ c) 0)), .long (lZ ((σ c) 1))] : List Value).set 1 (.long (lZ z))) : va_E) = EC g q c (updI (σ c) 1 z) from (EC_frac hc (updI (σ c) 1 z)).symm]; exact WD_set _) hd kk
theorem gf_X7_194 {g : Gx} {K : Kx} {cc : ByteArray} {n fr lo : Nat} {q : Nat → Nat} {σ : Nat → Nat → Int} {pc : Nat} {lv : List (Nat × Value)} {rest : List Value} (C : CX g K cc RX7 n fr lo) (hd : decode cc pc = .ok (.getfield 194, 3)) (kk : GJ g K (WM g q σ) (pc + 3) lv (.long (lZ (σ 0 19)) :: rest)) : GJ g K (WM g q σ) pc lv (.ref (q 0) :: rest) :=
  g_get (fs := [.int (iZ ((σ 0) 0)), .ref (q 1), .ref (q 2), .ref (q 3), .ref (q 4), .ref (q 5), .ref (q 6), .ref (q 7), .ref (q 8), .int (iZ ((σ 0) 9)), .ref (q 9), .long (lZ ((σ 0) 11)), .int (iZ ((σ 0) 12)), .ref (q 10), .long (lZ ((σ 0) 14)), .long (lZ ((σ 0) 15)), .long (lZ ((σ 0) 16)), .int (iZ ((σ 0) 17)), .ref (q 11), .long (lZ ((σ 0) 19)), .long (lZ ((σ 0) 20)), .ref (q 12)]) C 0 7 19 (WD_get (by decide)) rfl (by decide) inlX7 wf_X7_194 rfl hd kk
theorem pf_X7_194 {g : Gx} {K : Kx} {cc : ByteArray} {n fr lo : Nat} {q : Nat → Nat} {σ : Nat → Nat → Int} {pc : Nat} {lv : List (Nat × Value)} {rest : List Value} {z : Int} (C : CX g K cc RX7 n fr lo) (hd : decode cc pc = .ok (.putfield 194, 3)) (kk : GJ g K (WM g q (up σ 0 19 z)) (pc + 3) lv rest) : GJ g K (WM g q σ) pc lv (.long (lZ z) :: .ref (q 0) :: rest) :=
  g_put (fs := [.int (iZ ((σ 0) 0)), .ref (q 1), .ref (q 2), .ref (q 3), .ref (q 4), .ref (q 5), .ref (q 6), .ref (q 7), .ref (q 8), .int (iZ ((σ 0) 9)), .ref (q 9), .long (lZ ((σ 0) 11)), .int (iZ ((σ 0) 12)), .ref (q 10), .long (lZ ((σ 0) 14)), .long (lZ ((σ 0) 15)), .long (lZ ((σ 0) 16)), .int (iZ ((σ 0) 17)), .ref (q 11), .long (lZ ((σ 0) 19)), .long (lZ ((σ 0) 20)), .ref (q 12)]) C 0 7 19 tyX7 (WD_get (by decide)) rfl (by decide) inlX7 tyX7_ok nmX7 wf_X7_194 rfl rfl rfl (Nat.le_of_ble_eq_true rfl) (WD_set (updI (σ 0) 19 z)) hd kk
theorem gf_X7_191 {g : Gx} {K : Kx} {cc : ByteArray} {n fr lo : Nat} {q : Nat → Nat} {σ : Nat → Nat → Int} {pc : Nat} {lv : List (Nat × Value)} {rest : List Value} (C : CX g K cc RX7 n fr lo) (hd : decode cc pc = .ok (.getfield 191, 3)) (kk : GJ g K (WM g q σ) (pc + 3) lv (.long (lZ (σ 0 20)) :: rest)) : GJ g K (WM g q σ) pc lv (.ref (q 0) :: rest) :=
  g_get (fs := [.int (iZ ((σ 0) 0)), .ref (q 1), .ref (q 2), .ref (q 3), .ref (q 4), .ref (q 5), .ref (q 6), .ref (q 7), .ref (q 8), .int (iZ ((σ 0) 9)), .ref (q 9), .long (lZ ((σ 0) 11)), .int (iZ ((σ 0) 12)), .ref (q 10), .long (lZ ((σ 0) 14)), .long (lZ ((σ 0) 15)), .long (lZ ((σ 0) 16)), .int (iZ ((σ 0) 17)), .ref (q 11), .long (lZ ((σ 0) 19)), .long (lZ ((σ 0) 20)), .ref (q 12)]) C 0 7 20 (WD_get (by decide)) rfl (by decide) inlX7 wf_X7_191 rfl hd kk
theorem pf_X7_191 {g : Gx} {K : Kx} {cc : ByteArray} {n fr lo : Nat} {q : Nat → Nat} {σ : Nat → Nat → Int} {pc : Nat} {lv : List (Nat × Value)} {rest : List Value} {z : Int} (C : CX g K cc RX7 n fr lo) (hd : decode cc pc = .ok (.putfield 191, 3)) (kk : GJ g K (WM g q (up σ 0 20 z)) (pc + 3) lv rest) : GJ g K (WM g q σ) pc lv (.long (lZ z) :: .ref (q 0) :: rest) :=
  g_put (fs := [.int (iZ ((σ 0) 0)), .ref (q 1), .ref (q 2), .ref (q 3), .ref (q 4), .ref (q 5), .ref (q 6), .ref (q 7), .ref (q 8), .int (iZ ((σ 0) 9)), .ref (q 9), .long (lZ ((σ 0) 11)), .int (iZ ((σ 0) 12)), .ref (q 10), .long (lZ ((σ 0) 14)), .long (lZ ((σ 0) 15)), .long (lZ ((σ 0) 16)), .int (iZ ((σ 0) 17)), .ref (q 11), .long (lZ ((σ 0) 19)), .long (lZ ((σ 0) 20)), .ref (q 12)]) C 0 7 20 tyX7 (WD_get (by decide)) rfl (by decide) inlX7 tyX7_ok nmX7 wf_X7_191 rfl rfl rfl (Nat.le_of_ble_eq_true rfl) (WD_set (updI (σ 0) 20 z)) hd kk
theorem g_sheet {g : Gx} {K : Kx} {cc : ByteArray} {n fr lo : Nat} {q : Nat → Nat} {σ : Nat → Nat → Int} {pc : Nat} {lv : List (Nat × Value)} {rest : List Value} (C : CX g K cc RX6 n fr lo) (j : Nat) {z : Int} (hz : z = (j : Int)) (hj : j < 4) (hd : decode cc pc = .ok (.aaload, 1)) (kk : GJ g K (WC g q σ) (pc + 1) lv (.ref (q (15 + j)) :: rest)) : GJ g K (WC g q σ) pc lv (.int (iZ z) :: .ref (q 14) :: rest) := by
  obtain ⟨p, e, R, s, m, args, below, meth, c, A, Q, nL⟩ := K
  obtain ⟨hx, hb, hml, hown, hts, hK, hlk, hA, hfr, hlo, hN, hn⟩ := C
  intro H locs ls hP hD hS hl
  obtain ⟨h1, h2⟩ := iZ_in hz hj (by omega)
  refine va_aldq (C := "StandingArch$Sheet") (f := fun j => some (q (15 + j))) (n := 4) hx hb hK hP 14 2 (WD_get (by decide)) rfl h1 hd ?_
  rw [h2]
  exact kk H locs ls hP hD hS hl
end
section
theorem I64_32 {z : Int} (h : I32 z) : I64 z := ⟨by have := h.1; omega, by have := h.2; omega⟩
set_option maxHeartbeats 4000000 in
set_option maxRecDepth 20000 in
theorem c_X7_in (g : Gx) {v a b : Int} (h_v : I64 v) (h_a : I64 a) (h_b : I64 b) : MC g yX7_in cX7_in 6 ((some .boolean)) 0 0 [] [.long (lZ v), .long (lZ a), .long (lZ b)] (fun _ : Unit => []) (pI (fun z _ => z = bZ (a ≤ v ∧ v ≤ b))) := by
  refine MC_intro (own := RX7) rfl (by decide) (Nat.le_of_ble_eq_true rfl) (fun K C T => ?_)
  show GJ g K [] 0 [(0, .long (lZ v)), (2, .long (lZ a)), (4, .long (lZ b))] []
  refine g_lload_n 0 C rfl dX7_in_0 rfl ?_
  refine g_lload_n 1 C rfl dX7_in_1 rfl ?_
  refine g_lcmp_lt 17 C h_v h_a dX7_in_2 dX7_in_3 (by decide) (fun h1 => ?_) (fun h1 => ?_)
  · refine g_iconst C dX7_in_17 ?_
    refine g_zret (u := ()) C T dX7_in_18 (by omega) ?_
    exact ⟨_, rfl, (bZ_f (by omega)).symm⟩
  · refine g_lload_n 0 C rfl dX7_in_6 rfl ?_
    refine g_lload 2 C rfl dX7_in_7 ?_
    refine g_lcmp_gt 17 C h_v h_b dX7_in_9 dX7_in_10 (by decide) (fun h2 => ?_) (fun h2 => ?_)
    · refine g_iconst C dX7_in_17 ?_
      refine g_zret (u := ()) C T dX7_in_18 (by omega) ?_
      exact ⟨_, rfl, (bZ_f (by omega)).symm⟩
    · refine g_iconst C dX7_in_13 ?_
      refine g_goto 18 C dX7_in_14 (by decide) ?_
      refine g_zret (u := ()) C T dX7_in_18 (by omega) ?_
      exact ⟨_, rfl, (bZ_t (by omega)).symm⟩
set_option maxHeartbeats 4000000 in
set_option maxRecDepth 20000 in
theorem c_X6_isSheet (g : Gx) {v : Int} (h_v : I32 v) : MC g yX6_isSheet cX6_isSheet 1 ((some .boolean)) 0 0 [] [.int (iZ v)] (fun _ : Unit => []) (pI (fun z _ => z = bZ (0 ≤ v ∧ v < 4))) := by
  refine MC_intro (own := RX6) rfl (by decide) (Nat.le_of_ble_eq_true rfl) (fun K C T => ?_)
  show GJ g K [] 0 [(0, .int (iZ v))] []
  refine g_iload_n 0 C rfl dX6_isSheet_0 rfl ?_
  refine g_if_lt 13 C h_v dX6_isSheet_1 (by decide) (fun h1 => ?_) (fun h1 => ?_)
  · refine g_iconst C dX6_isSheet_13 ?_
    refine g_zret (u := ()) C T dX6_isSheet_14 (by omega) ?_
    exact ⟨_, rfl, (bZ_f (by omega)).symm⟩
  · refine g_iload_n 0 C rfl dX6_isSheet_4 rfl ?_
    refine g_iconst C dX6_isSheet_5 ?_
    refine g_icmp_ge 13 C h_v (by unfold I32; omega) dX6_isSheet_6 (by decide) (fun h2 => ?_) (fun h2 => ?_)
    · refine g_iconst C dX6_isSheet_13 ?_
      refine g_zret (u := ()) C T dX6_isSheet_14 (by omega) ?_
      exact ⟨_, rfl, (bZ_f (by omega)).symm⟩
    · refine g_iconst C dX6_isSheet_9 ?_
      refine g_goto 14 C dX6_isSheet_10 (by decide) ?_
      refine g_zret (u := ()) C T dX6_isSheet_14 (by omega) ?_
      exact ⟨_, rfl, (bZ_t (by omega)).symm⟩
set_option maxHeartbeats 4000000 in
set_option maxRecDepth 20000 in
theorem c_X6_isLane (g : Gx) {v : Int} (h_v : I32 v) : MC g yX6_isLane cX6_isLane 1 ((some .boolean)) 0 0 [] [.int (iZ v)] (fun _ : Unit => []) (pI (fun z _ => z = bZ (0 ≤ v ∧ v < 3))) := by
  refine MC_intro (own := RX6) rfl (by decide) (Nat.le_of_ble_eq_true rfl) (fun K C T => ?_)
  show GJ g K [] 0 [(0, .int (iZ v))] []
  refine g_iload_n 0 C rfl dX6_isLane_0 rfl ?_
  refine g_if_lt 13 C h_v dX6_isLane_1 (by decide) (fun h1 => ?_) (fun h1 => ?_)
  · refine g_iconst C dX6_isLane_13 ?_
    refine g_zret (u := ()) C T dX6_isLane_14 (by omega) ?_
    exact ⟨_, rfl, (bZ_f (by omega)).symm⟩
  · refine g_iload_n 0 C rfl dX6_isLane_4 rfl ?_
    refine g_iconst C dX6_isLane_5 ?_
    refine g_icmp_ge 13 C h_v (by unfold I32; omega) dX6_isLane_6 (by decide) (fun h2 => ?_) (fun h2 => ?_)
    · refine g_iconst C dX6_isLane_13 ?_
      refine g_zret (u := ()) C T dX6_isLane_14 (by omega) ?_
      exact ⟨_, rfl, (bZ_f (by omega)).symm⟩
    · refine g_iconst C dX6_isLane_9 ?_
      refine g_goto 14 C dX6_isLane_10 (by decide) ?_
      refine g_zret (u := ()) C T dX6_isLane_14 (by omega) ?_
      exact ⟨_, rfl, (bZ_t (by omega)).symm⟩
set_option maxHeartbeats 4000000 in
set_option maxRecDepth 20000 in
theorem c_X6_isChoice (g : Gx) {v : Int} (h_v : I32 v) : MC g yX6_isChoice cX6_isChoice 1 ((some .boolean)) 0 0 [] [.int (iZ v)] (fun _ : Unit => []) (pI (fun z _ => z = bZ (v = 0 ∨ v = 1))) := by
  refine MC_intro (own := RX6) rfl (by decide) (Nat.le_of_ble_eq_true rfl) (fun K C T => ?_)
  show GJ g K [] 0 [(0, .int (iZ v))] []
  refine g_iload_n 0 C rfl dX6_isChoice_0 rfl ?_
  refine g_if_eq 9 C h_v dX6_isChoice_1 (by decide) (fun h1 => ?_) (fun h1 => ?_)
  · refine g_iconst C dX6_isChoice_9 ?_
    refine g_goto 14 C dX6_isChoice_10 (by decide) ?_
    refine g_zret (u := ()) C T dX6_isChoice_14 (by omega) ?_
    exact ⟨_, rfl, (bZ_t (by omega)).symm⟩
  · refine g_iload_n 0 C rfl dX6_isChoice_4 rfl ?_
    refine g_iconst C dX6_isChoice_5 ?_
    refine g_icmp_ne 13 C h_v (by unfold I32; omega) dX6_isChoice_6 (by decide) (fun h2 => ?_) (fun h2 => ?_)
    · refine g_iconst C dX6_isChoice_13 ?_
      refine g_zret (u := ()) C T dX6_isChoice_14 (by omega) ?_
      exact ⟨_, rfl, (bZ_f (by omega)).symm⟩
    · refine g_iconst C dX6_isChoice_9 ?_
      refine g_goto 14 C dX6_isChoice_10 (by decide) ?_
      refine g_zret (u := ()) C T dX6_isChoice_14 (by omega) ?_
      exact ⟨_, rfl, (bZ_t (by omega)).symm⟩
set_option maxHeartbeats 4000000 in
set_option maxRecDepth 20000 in
theorem c_X6_isHeight (g : Gx) {v : Int} (h_v : I32 v) : MC g yX6_isHeight cX6_isHeight 1 ((some .boolean)) 0 0 [] [.int (iZ v)] (fun _ : Unit => []) (pI (fun z _ => z = bZ (-20 ≤ v ∧ v ≤ 20))) := by
  refine MC_intro (own := RX6) rfl (by decide) (Nat.le_of_ble_eq_true rfl) (fun K C T => ?_)
  show GJ g K [] 0 [(0, .int (iZ v))] []
  refine g_iload_n 0 C rfl dX6_isHeight_0 rfl ?_
  refine g_bipush C dX6_isHeight_1 (by decide) ?_
  refine g_icmp_lt 16 C h_v (by unfold I32; omega) dX6_isHeight_3 (by decide) (fun h1 => ?_) (fun h1 => ?_)
  · refine g_iconst C dX6_isHeight_16 ?_
    refine g_zret (u := ()) C T dX6_isHeight_17 (by omega) ?_
    exact ⟨_, rfl, (bZ_f (by omega)).symm⟩
  · refine g_iload_n 0 C rfl dX6_isHeight_6 rfl ?_
    refine g_bipush C dX6_isHeight_7 (by decide) ?_
    refine g_icmp_gt 16 C h_v (by unfold I32; omega) dX6_isHeight_9 (by decide) (fun h2 => ?_) (fun h2 => ?_)
    · refine g_iconst C dX6_isHeight_16 ?_
      refine g_zret (u := ()) C T dX6_isHeight_17 (by omega) ?_
      exact ⟨_, rfl, (bZ_f (by omega)).symm⟩
    · refine g_iconst C dX6_isHeight_12 ?_
      refine g_goto 17 C dX6_isHeight_13 (by decide) ?_
      refine g_zret (u := ()) C T dX6_isHeight_17 (by omega) ?_
      exact ⟨_, rfl, (bZ_t (by omega)).symm⟩
set_option maxHeartbeats 4000000 in
set_option maxRecDepth 20000 in
theorem c_X6_isLoad (g : Gx) {v : Int} (h_v : I32 v) : MC g yX6_isLoad cX6_isLoad 1 ((some .boolean)) 0 0 [] [.int (iZ v)] (fun _ : Unit => []) (pI (fun z _ => z = bZ (0 ≤ v ∧ v ≤ 10))) := by
  refine MC_intro (own := RX6) rfl (by decide) (Nat.le_of_ble_eq_true rfl) (fun K C T => ?_)
  show GJ g K [] 0 [(0, .int (iZ v))] []
  refine g_iload_n 0 C rfl dX6_isLoad_0 rfl ?_
  refine g_if_lt 14 C h_v dX6_isLoad_1 (by decide) (fun h1 => ?_) (fun h1 => ?_)
  · refine g_iconst C dX6_isLoad_14 ?_
    refine g_zret (u := ()) C T dX6_isLoad_15 (by omega) ?_
    exact ⟨_, rfl, (bZ_f (by omega)).symm⟩
  · refine g_iload_n 0 C rfl dX6_isLoad_4 rfl ?_
    refine g_bipush C dX6_isLoad_5 (by decide) ?_
    refine g_icmp_gt 14 C h_v (by unfold I32; omega) dX6_isLoad_7 (by decide) (fun h2 => ?_) (fun h2 => ?_)
    · refine g_iconst C dX6_isLoad_14 ?_
      refine g_zret (u := ()) C T dX6_isLoad_15 (by omega) ?_
      exact ⟨_, rfl, (bZ_f (by omega)).symm⟩
    · refine g_iconst C dX6_isLoad_10 ?_
      refine g_goto 15 C dX6_isLoad_11 (by decide) ?_
      refine g_zret (u := ()) C T dX6_isLoad_15 (by omega) ?_
      exact ⟨_, rfl, (bZ_t (by omega)).symm⟩
set_option maxHeartbeats 4000000 in
set_option maxRecDepth 20000 in
theorem c_X6_areEdges (g : Gx) {a b : Int} (h_a : I32 a) (h_b : I32 b) : MC g yX6_areEdges cX6_areEdges 2 ((some .boolean)) 1 20 [] [.int (iZ a), .int (iZ b)] (fun _ : Unit => []) (pI (fun z _ => z = bZ ((-20 ≤ a ∧ a ≤ 20) ∧ (-20 ≤ b ∧ b ≤ 20) ∧ a ≤ b))) := by
  refine MC_intro (own := RX6) rfl (by decide) (Nat.le_of_ble_eq_true rfl) (fun K C T => ?_)
  show GJ g K [] 0 [(0, .int (iZ a)), (1, .int (iZ b))] []
  refine g_iload_n 0 C rfl dX6_areEdges_0 rfl ?_
  refine g_callSI C (c_X6_isHeight g h_a) gs_X6_196 yd_X6_isHeight ⟨by decide, by decide⟩ rfl (Nat.le_of_ble_eq_true rfl) dX6_areEdges_1 ?_
  rintro _ rfl
  refine g_beq 23 C dX6_areEdges_4 (by decide) (fun h1 => ?_) (fun h1 => ?_)
  · refine g_iconst C dX6_areEdges_23 ?_
    refine g_zret (u := ()) C T dX6_areEdges_24 (by omega) ?_
    exact ⟨_, rfl, (bZ_f (by omega)).symm⟩
  · refine g_iload_n 1 C rfl dX6_areEdges_7 rfl ?_
    refine g_callSI C (c_X6_isHeight g h_b) gs_X6_196 yd_X6_isHeight ⟨by decide, by decide⟩ rfl (Nat.le_of_ble_eq_true rfl) dX6_areEdges_8 ?_
    rintro _ rfl
    refine g_beq 23 C dX6_areEdges_11 (by decide) (fun h2 => ?_) (fun h2 => ?_)
    · refine g_iconst C dX6_areEdges_23 ?_
      refine g_zret (u := ()) C T dX6_areEdges_24 (by omega) ?_
      exact ⟨_, rfl, (bZ_f (by omega)).symm⟩
    · refine g_iload_n 0 C rfl dX6_areEdges_14 rfl ?_
      refine g_iload_n 1 C rfl dX6_areEdges_15 rfl ?_
      refine g_icmp_gt 23 C h_a h_b dX6_areEdges_16 (by decide) (fun h3 => ?_) (fun h3 => ?_)
      · refine g_iconst C dX6_areEdges_23 ?_
        refine g_zret (u := ()) C T dX6_areEdges_24 (by omega) ?_
        exact ⟨_, rfl, (bZ_f (by omega)).symm⟩
      · refine g_iconst C dX6_areEdges_19 ?_
        refine g_goto 24 C dX6_areEdges_20 (by decide) ?_
        refine g_zret (u := ()) C T dX6_areEdges_24 (by omega) ?_
        exact ⟨_, rfl, (bZ_t (by omega)).symm⟩
set_option maxHeartbeats 4000000 in
set_option maxRecDepth 20000 in
theorem c_X7_isSheet (g : Gx) {a b : Int} (h_a : I32 a) (h_b : I32 b) : MC g yX7_isSheet cX7_isSheet 2 ((some .boolean)) 1 25 [] [.int (iZ a), .int (iZ b)] (fun _ : Unit => []) (pI (fun z _ => z = bZ ((0 ≤ a ∧ a ≤ 3) ∧ (0 ≤ b ∧ b ≤ 2)))) := by
  refine MC_intro (own := RX7) rfl (by decide) (Nat.le_of_ble_eq_true rfl) (fun K C T => ?_)
  show GJ g K [] 0 [(0, .int (iZ a)), (1, .int (iZ b))] []
  refine g_iload_n 0 C rfl dX7_isSheet_0 rfl ?_
  refine g_i2l C dX7_isSheet_1 h_a ?_
  refine g_lconst 0 C dX7_isSheet_2 (by decide) ?_
  refine g_ldc2 3 C wk_X7_69 (by decide) dX7_isSheet_3 ?_
  refine g_callSI C (c_X7_in g (v := a) (a := 0) (b := 3) (I64_32 h_a) (by unfold I64; omega) (by unfold I64; omega)) gs_X7_59 yd_X7_in ⟨by decide, by decide⟩ rfl (Nat.le_of_ble_eq_true rfl) dX7_isSheet_6 ?_
  rintro _ rfl
  refine g_beq 28 C dX7_isSheet_9 (by decide) (fun h1 => ?_) (fun h1 => ?_)
  · refine g_iconst C dX7_isSheet_28 ?_
    refine g_zret (u := ()) C T dX7_isSheet_29 (by omega) ?_
    exact ⟨_, rfl, (bZ_f (by omega)).symm⟩
  · refine g_iload_n 1 C rfl dX7_isSheet_12 rfl ?_
    refine g_i2l C dX7_isSheet_13 h_b ?_
    refine g_lconst 0 C dX7_isSheet_14 (by decide) ?_
    refine g_ldc2 2 C wk_X7_55 (by decide) dX7_isSheet_15 ?_
    refine g_callSI C (c_X7_in g (v := b) (a := 0) (b := 2) (I64_32 h_b) (by unfold I64; omega) (by unfold I64; omega)) gs_X7_59 yd_X7_in ⟨by decide, by decide⟩ rfl (Nat.le_of_ble_eq_true rfl) dX7_isSheet_18 ?_
    rintro _ rfl
    refine g_beq 28 C dX7_isSheet_21 (by decide) (fun h2 => ?_) (fun h2 => ?_)
    · refine g_iconst C dX7_isSheet_28 ?_
      refine g_zret (u := ()) C T dX7_isSheet_29 (by omega) ?_
      exact ⟨_, rfl, (bZ_f (by omega)).symm⟩
    · refine g_iconst C dX7_isSheet_24 ?_
      refine g_goto 29 C dX7_isSheet_25 (by decide) ?_
      refine g_zret (u := ()) C T dX7_isSheet_29 (by omega) ?_
      exact ⟨_, rfl, (bZ_t (by omega)).symm⟩
set_option maxHeartbeats 4000000 in
set_option maxRecDepth 20000 in
theorem lp_X7_common {g : Gx} {K : Kx} {a b Z : Int} (C : CX g K cX7_common RX7 10 0 0) (T : RT g K (some .long) (fun _ : Unit => []) (pL (fun z _ => z = Z))) : ∀ (d x y : Nat), y < d → x < 4611686018427387904 → y < 4611686018427387904 → (Nat.gcd x y : Int) = Z → GJ g K [] 28 [(0, .long (lZ a)), (2, .long (lZ b)), (4, .long (lZ (x : Int))), (6, .long (lZ (y : Int)))] [] := by
  intro d
  induction d with
  | zero => intro x y h; omega
  | succ d ih =>
    intro x y hd hx hy hZ
    refine g_lload 3 C rfl dX7_common_28 ?_
    refine g_lconst 0 C dX7_common_30 (by decide) ?_
    refine g_lcmp_eq 53 C (by unfold I64; omega) (by unfold I64; omega) dX7_common_31 dX7_common_32 (by decide) (fun h1 => ?_) (fun h1 => ?_)
    · refine g_lload 2 C rfl dX7_common_53 ?_
      refine g_lret (u := ()) C T dX7_common_55 ?_
      refine ⟨_, rfl, ?_⟩
      have e9 : y = 0 := by omega
      subst e9
      rw [← hZ, Nat.gcd_zero_right]
    · refine g_lload 2 C rfl dX7_common_35 ?_
      refine g_lload 3 C rfl dX7_common_37 ?_
      refine g_lrem C dX7_common_39 (by unfold I64; omega) (by unfold I64; omega) (by omega) ?_
      refine g_lname (fun w2 ew2 => ?_)
      refine g_lstore (lv' := [(0, .long (lZ a)), (2, .long (lZ b)), (4, .long (lZ (x : Int))), (6, .long (lZ (y : Int))), (8, .long (lZ w2))]) [1, 2, 3, 4, 0] C dX7_common_40 (by decide) rfl ?_
      refine g_lload 3 C rfl dX7_common_42 ?_
      refine g_lstore (lv' := [(0, .long (lZ a)), (2, .long (lZ b)), (4, .long (lZ (y : Int))), (6, .long (lZ (y : Int))), (8, .long (lZ w2))]) [1, 2, 0, 3, 4] C dX7_common_44 (by decide) rfl ?_
      refine g_lload 4 C rfl dX7_common_46 ?_
      refine g_lstore (lv' := [(0, .long (lZ a)), (2, .long (lZ b)), (4, .long (lZ (y : Int))), (6, .long (lZ w2)), (8, .long (lZ w2))]) [1, 2, 3, 0, 4] C dX7_common_48 (by decide) rfl ?_
      refine g_goto 28 C dX7_common_50 (by decide) ?_
      have e9 : w2 = ((x % y : Nat) : Int) := by rw [ew2]; exact (Int.ofNat_tmod x y).symm
      subst e9
      refine g_lv [0, 1, 2, 3] rfl ?_
      have hp : 0 < y := by omega
      have hm := Nat.mod_lt x hp
      exact ih y (x % y) (by omega) (by omega) (by omega) (by rw [← hZ, Nat.gcd_comm x y, Nat.gcd_rec y x, Nat.gcd_comm])
set_option maxHeartbeats 4000000 in
set_option maxRecDepth 20000 in
theorem c_X7_common (g : Gx) {a b : Int} (h_a : -4611686018427387904 < a ∧ a < 4611686018427387904) (h_b : -4611686018427387904 < b ∧ b < 4611686018427387904) : MC g yX7_common cX7_common 10 ((some .long)) 0 0 [] [.long (lZ a), .long (lZ b)] (fun _ : Unit => []) (pL (fun z _ => z = ((Nat.gcd a.natAbs b.natAbs : Nat) : Int))) := by
  refine MC_intro (own := RX7) rfl (by decide) (Nat.le_of_ble_eq_true rfl) (fun K C T => ?_)
  show GJ g K [] 0 [(0, .long (lZ a)), (2, .long (lZ b))] []
  refine g_lload_n 0 C rfl dX7_common_0 rfl ?_
  refine g_lconst 0 C dX7_common_1 (by decide) ?_
  refine g_lcmp_ge 11 C (by unfold I64; omega) (by unfold I64; omega) dX7_common_2 dX7_common_3 (by decide) (fun h1 => ?_) (fun h1 => ?_)
  · refine g_lload_n 0 C rfl dX7_common_11 rfl ?_
    refine g_lstore (lv' := [(0, .long (lZ a)), (2, .long (lZ b)), (4, .long (lZ a))]) [1, 2, 0] C dX7_common_12 (by decide) rfl ?_
    refine g_lload_n 1 C rfl dX7_common_14 rfl ?_
    refine g_lconst 0 C dX7_common_15 (by decide) ?_
    refine g_lcmp_ge 25 C (by unfold I64; omega) (by unfold I64; omega) dX7_common_16 dX7_common_17 (by decide) (fun h2 => ?_) (fun h2 => ?_)
    · refine g_lload_n 1 C rfl dX7_common_25 rfl ?_
      refine g_lstore (lv' := [(0, .long (lZ a)), (2, .long (lZ b)), (4, .long (lZ a)), (6, .long (lZ b))]) [1, 2, 3, 0] C dX7_common_26 (by decide) rfl ?_
      have e7 : a = ((a.natAbs : Nat) : Int) := by omega
      have e8 : b = ((b.natAbs : Nat) : Int) := by omega
      rw [e7, e8]
      exact lp_X7_common C T (b.natAbs + 1) a.natAbs b.natAbs (by omega) (by omega) (by omega) rfl
    · refine g_lload_n 1 C rfl dX7_common_20 rfl ?_
      refine g_lneg C dX7_common_21 ?_
      refine g_goto 26 C dX7_common_22 (by decide) ?_
      refine g_lname (fun w3 ew3 => ?_)
      refine g_lstore (lv' := [(0, .long (lZ a)), (2, .long (lZ b)), (4, .long (lZ a)), (6, .long (lZ w3))]) [1, 2, 3, 0] C dX7_common_26 (by decide) rfl ?_
      have e7 : a = ((a.natAbs : Nat) : Int) := by omega
      have e8 : w3 = ((b.natAbs : Nat) : Int) := by omega
      rw [e7, e8]
      exact lp_X7_common C T (b.natAbs + 1) a.natAbs b.natAbs (by omega) (by omega) (by omega) rfl
  · refine g_lload_n 0 C rfl dX7_common_6 rfl ?_
    refine g_lneg C dX7_common_7 ?_
    refine g_goto 12 C dX7_common_8 (by decide) ?_
    refine g_lname (fun w4 ew4 => ?_)
    refine g_lstore (lv' := [(0, .long (lZ a)), (2, .long (lZ b)), (4, .long (lZ w4))]) [1, 2, 0] C dX7_common_12 (by decide) rfl ?_
    refine g_lload_n 1 C rfl dX7_common_14 rfl ?_
    refine g_lconst 0 C dX7_common_15 (by decide) ?_
    refine g_lcmp_ge 25 C (by unfold I64; omega) (by unfold I64; omega) dX7_common_16 dX7_common_17 (by decide) (fun h5 => ?_) (fun h5 => ?_)
    · refine g_lload_n 1 C rfl dX7_common_25 rfl ?_
      refine g_lstore (lv' := [(0, .long (lZ a)), (2, .long (lZ b)), (4, .long (lZ w4)), (6, .long (lZ b))]) [1, 2, 3, 0] C dX7_common_26 (by decide) rfl ?_
      have e7 : w4 = ((a.natAbs : Nat) : Int) := by omega
      have e8 : b = ((b.natAbs : Nat) : Int) := by omega
      rw [e7, e8]
      exact lp_X7_common C T (b.natAbs + 1) a.natAbs b.natAbs (by omega) (by omega) (by omega) rfl
    · refine g_lload_n 1 C rfl dX7_common_20 rfl ?_
      refine g_lneg C dX7_common_21 ?_
      refine g_goto 26 C dX7_common_22 (by decide) ?_
      refine g_lname (fun w6 ew6 => ?_)
      refine g_lstore (lv' := [(0, .long (lZ a)), (2, .long (lZ b)), (4, .long (lZ w4)), (6, .long (lZ w6))]) [1, 2, 3, 0] C dX7_common_26 (by decide) rfl ?_
      have e7 : w4 = ((a.natAbs : Nat) : Int) := by omega
      have e8 : w6 = ((b.natAbs : Nat) : Int) := by omega
      rw [e7, e8]
      exact lp_X7_common C T (b.natAbs + 1) a.natAbs b.natAbs (by omega) (by omega) (by omega) rfl
theorem down_1 {a b : Int} (hb : 0 < b) (h : a.tmod b ≠ 0 ∧ a < 0) : a.tdiv b - 1 = a / b := by
  have h1 := Int.tdiv_mul_add_tmod a b
  have h2 := Int.lt_tmod_of_pos a hb
  have h3 : a.tmod b ≤ 0 := by
    have h4 := Int.tmod_nonneg b (show 0 ≤ -a by omega)
    rw [Int.neg_tmod] at h4
    omega
  have h5 := (Int.ediv_emod_unique (a := a) (b := b) (r := a.tmod b + b) (q := a.tdiv b - 1) hb).mpr ⟨by rw [Int.mul_sub, Int.mul_comm b (a.tdiv b), Int.mul_one]; omega, by omega, by omega⟩
  exact h5.1.symm
theorem down_0 {a b : Int} (hb : 0 < b) (h : a.tmod b = 0 ∨ 0 ≤ a) : a.tdiv b = a / b := by
  have h1 := Int.tdiv_mul_add_tmod a b
  rcases h with h | h
  · have h5 := (Int.ediv_emod_unique (a := a) (b := b) (r := 0) (q := a.tdiv b) hb).mpr ⟨by rw [Int.mul_comm b (a.tdiv b)]; omega, by omega, by omega⟩
    exact h5.1.symm
  · exact Int.tdiv_eq_ediv_of_nonneg h
set_option maxHeartbeats 4000000 in
set_option maxRecDepth 20000 in
theorem c_X7_down (g : Gx) {a b : Int} (h_a : I64 a) (h_B : I64 b) (h_b : 0 < b) : MC g yX7_down cX7_down 6 ((some .long)) 0 0 [] [.long (lZ a), .long (lZ b)] (fun _ : Unit => []) (pL (fun z _ => z = a / b)) := by
  refine MC_intro (own := RX7) rfl (by decide) (Nat.le_of_ble_eq_true rfl) (fun K C T => ?_)
  show GJ g K [] 0 [(0, .long (lZ a)), (2, .long (lZ b))] []
  refine g_lload_n 0 C rfl dX7_down_0 rfl ?_
  refine g_lload_n 1 C rfl dX7_down_1 rfl ?_
  refine g_ldiv C dX7_down_2 h_a h_B (by omega) ?_
  refine g_lname (fun w1 ew1 => ?_)
  refine g_lstore (lv' := [(0, .long (lZ a)), (2, .long (lZ b)), (4, .long (lZ w1))]) [1, 2, 0] C dX7_down_3 (by decide) rfl ?_
  refine g_lload_n 0 C rfl dX7_down_5 rfl ?_
  refine g_lload_n 1 C rfl dX7_down_6 rfl ?_
  refine g_lrem C dX7_down_7 h_a h_B (by omega) ?_
  refine g_lconst 0 C dX7_down_8 (by decide) ?_
  refine g_lcmp_eq 26 C (by have h5 := Int.lt_tmod_of_pos a h_b; have h6 := Int.tmod_lt_of_pos a h_b; unfold I64 at *; omega) (by have h5 := Int.lt_tmod_of_pos a h_b; have h6 := Int.tmod_lt_of_pos a h_b; unfold I64 at *; omega) dX7_down_9 dX7_down_10 (by decide) (fun h2 => ?_) (fun h2 => ?_)
  · refine g_lload 2 C rfl dX7_down_26 ?_
    refine g_lret (u := ()) C T dX7_down_28 ?_
    refine ⟨_, rfl, ?_⟩
    rw [ew1]; exact down_0 h_b (by omega)
  · refine g_lload_n 0 C rfl dX7_down_13 rfl ?_
    refine g_lconst 0 C dX7_down_14 (by decide) ?_
    refine g_lcmp_ge 26 C h_a (by have h5 := Int.lt_tmod_of_pos a h_b; have h6 := Int.tmod_lt_of_pos a h_b; unfold I64 at *; omega) dX7_down_15 dX7_down_16 (by decide) (fun h3 => ?_) (fun h3 => ?_)
    · refine g_lload 2 C rfl dX7_down_26 ?_
      refine g_lret (u := ()) C T dX7_down_28 ?_
      refine ⟨_, rfl, ?_⟩
      rw [ew1]; exact down_0 h_b (by omega)
    · refine g_lload 2 C rfl dX7_down_19 ?_
      refine g_lconst 1 C dX7_down_21 (by decide) ?_
      refine g_lsub C dX7_down_22 ?_
      refine g_goto 28 C dX7_down_23 (by decide) ?_
      refine g_lret (u := ()) C T dX7_down_28 ?_
      refine ⟨_, rfl, ?_⟩
      rw [ew1]; exact down_1 h_b (by omega)
end
section
/-! the rows of the model as a matrix -/
def rwf (σ : Nat → Nat → Int) (r c : Nat) : Int := σ 8 (5 * r + c)
def det3 (f : Nat → Nat → Int) (p q r x y z : Nat) : Int := f p x * (f q y * f r z - f q z * f r y) - f p y * (f q x * f r z - f q z * f r x) + f p z * (f q x * f r y - f q y * f r x)
def mosum (x w : Nat → Int) (L : Int) (i : Nat) : Nat → Int
  | 0 => 0
  | 1 => 0
  | (j + 2) => mosum x w L i (j + 1) + x i * w (j + 1) * (L - x (j + 1)) - (if j + 1 < i then L * w (j + 1) * (x i - x (j + 1)) else 0)
theorem mosum_s (x w : Nat → Int) (L : Int) (i j : Nat) : mosum x w L i (j + 2) = mosum x w L i (j + 1) + x i * w (j + 1) * (L - x (j + 1)) - (if j + 1 < i then L * w (j + 1) * (x i - x (j + 1)) else 0) := rfl
def lin (σ : Nat → Nat → Int) (r : Nat) : Int := rwf σ r 0 * σ 9 0 + rwf σ r 1 * σ 9 1 + rwf σ r 2 * σ 9 2 + rwf σ r 3 * σ 9 3
set_option maxHeartbeats 4000000 in
set_option maxRecDepth 20000 in
theorem c_X7_three (g : Gx) {q : Nat → Nat} {σ : Nat → Nat → Int} {p1 p2 p3 x1 x2 x3 : Nat} (h1 : p1 < 16) (h2 : p2 < 16) (h3 : p3 < 16) (h4 : x1 < 5) (h5 : x2 < 5) (h6 : x3 < 5) : MC g yX7_three cX7_three 13 ((some .long)) 0 0 (WM g q σ) [.ref (q 0), .int (iZ (p1 : Int)), .int (iZ (p2 : Int)), .int (iZ (p3 : Int)), .int (iZ (x1 : Int)), .int (iZ (x2 : Int)), .int (iZ (x3 : Int))] (fun _ : Unit => WM g q σ) (pL (fun z _ => z = det3 (rwf σ) p1 p2 p3 x1 x2 x3)) := by
  refine MC_intro (own := RX7) rfl (by decide) (Nat.le_of_ble_eq_true rfl) (fun K C T => ?_)
  show GJ g K (WM g q σ) 0 [(0, .ref (q 0)), (1, .int (iZ (p1 : Int))), (2, .int (iZ (p2 : Int))), (3, .int (iZ (p3 : Int))), (4, .int (iZ (x1 : Int))), (5, .int (iZ (x2 : Int))), (6, .int (iZ (x3 : Int)))] []
  refine g_aload_n 0 C rfl dX7_three_0 rfl ?_
  refine gf_X7_35 C dX7_three_1 ?_
  refine g_iconst C dX7_three_4 ?_
  refine g_iload_n 2 C rfl dX7_three_5 rfl ?_
  refine g_imul C dX7_three_6 ?_
  refine g_iload 5 C rfl dX7_three_7 ?_
  refine g_iadd C dX7_three_9 ?_
  refine g_lald C 8 ((5 * p2) + x2) (by decide) (fun _ => rfl) (by omega) (by omega) (by decide) dX7_three_10 ?_
  refine g_aload_n 0 C rfl dX7_three_11 rfl ?_
  refine gf_X7_35 C dX7_three_12 ?_
  refine g_iconst C dX7_three_15 ?_
  refine g_iload_n 3 C rfl dX7_three_16 rfl ?_
  refine g_imul C dX7_three_17 ?_
  refine g_iload 6 C rfl dX7_three_18 ?_
  refine g_iadd C dX7_three_20 ?_
  refine g_lald C 8 ((5 * p3) + x3) (by decide) (fun _ => rfl) (by omega) (by omega) (by decide) dX7_three_21 ?_
  refine g_lmul C dX7_three_22 ?_
  refine g_aload_n 0 C rfl dX7_three_23 rfl ?_
  refine gf_X7_35 C dX7_three_24 ?_
  refine g_iconst C dX7_three_27 ?_
  refine g_iload_n 2 C rfl dX7_three_28 rfl ?_
  refine g_imul C dX7_three_29 ?_
  refine g_iload 6 C rfl dX7_three_30 ?_
  refine g_iadd C dX7_three_32 ?_
  refine g_lald C 8 ((5 * p2) + x3) (by decide) (fun _ => rfl) (by omega) (by omega) (by decide) dX7_three_33 ?_
  refine g_aload_n 0 C rfl dX7_three_34 rfl ?_
  refine gf_X7_35 C dX7_three_35 ?_
  refine g_iconst C dX7_three_38 ?_
  refine g_iload_n 3 C rfl dX7_three_39 rfl ?_
  refine g_imul C dX7_three_40 ?_
  refine g_iload 5 C rfl dX7_three_41 ?_
  refine g_iadd C dX7_three_43 ?_
  refine g_lald C 8 ((5 * p3) + x2) (by decide) (fun _ => rfl) (by omega) (by omega) (by decide) dX7_three_44 ?_
  refine g_lmul C dX7_three_45 ?_
  refine g_lsub C dX7_three_46 ?_
  refine g_lname (fun w1 ew1 => ?_)
  refine g_lstore (lv' := [(0, .ref (q 0)), (1, .int (iZ (p1 : Int))), (2, .int (iZ (p2 : Int))), (3, .int (iZ (p3 : Int))), (4, .int (iZ (x1 : Int))), (5, .int (iZ (x2 : Int))), (6, .int (iZ (x3 : Int))), (7, .long (lZ w1))]) [1, 2, 3, 4, 5, 6, 7, 0] C dX7_three_47 (by decide) rfl ?_
  refine g_aload_n 0 C rfl dX7_three_49 rfl ?_
  refine gf_X7_35 C dX7_three_50 ?_
  refine g_iconst C dX7_three_53 ?_
  refine g_iload_n 2 C rfl dX7_three_54 rfl ?_
  refine g_imul C dX7_three_55 ?_
  refine g_iload 4 C rfl dX7_three_56 ?_
  refine g_iadd C dX7_three_58 ?_
  refine g_lald C 8 ((5 * p2) + x1) (by decide) (fun _ => rfl) (by omega) (by omega) (by decide) dX7_three_59 ?_
  refine g_aload_n 0 C rfl dX7_three_60 rfl ?_
  refine gf_X7_35 C dX7_three_61 ?_
  refine g_iconst C dX7_three_64 ?_
  refine g_iload_n 3 C rfl dX7_three_65 rfl ?_
  refine g_imul C dX7_three_66 ?_
  refine g_iload 6 C rfl dX7_three_67 ?_
  refine g_iadd C dX7_three_69 ?_
  refine g_lald C 8 ((5 * p3) + x3) (by decide) (fun _ => rfl) (by omega) (by omega) (by decide) dX7_three_70 ?_
  refine g_lmul C dX7_three_71 ?_
  refine g_aload_n 0 C rfl dX7_three_72 rfl ?_
  refine gf_X7_35 C dX7_three_73 ?_
  refine g_iconst C dX7_three_76 ?_
  refine g_iload_n 2 C rfl dX7_three_77 rfl ?_
  refine g_imul C dX7_three_78 ?_
  refine g_iload 6 C rfl dX7_three_79 ?_
  refine g_iadd C dX7_three_81 ?_
  refine g_lald C 8 ((5 * p2) + x3) (by decide) (fun _ => rfl) (by omega) (by omega) (by decide) dX7_three_82 ?_
  refine g_aload_n 0 C rfl dX7_three_83 rfl ?_
  refine gf_X7_35 C dX7_three_84 ?_
  refine g_iconst C dX7_three_87 ?_
  refine g_iload_n 3 C rfl dX7_three_88 rfl ?_
  refine g_imul C dX7_three_89 ?_
  refine g_iload 4 C rfl dX7_three_90 ?_
  refine g_iadd C dX7_three_92 ?_
  refine g_lald C 8 ((5 * p3) + x1) (by decide) (fun _ => rfl) (by omega) (by omega) (by decide) dX7_three_93 ?_
  refine g_lmul C dX7_three_94 ?_
  refine g_lsub C dX7_three_95 ?_
  refine g_lname (fun w2 ew2 => ?_)
  refine g_lstore (lv' := [(0, .ref (q 0)), (1, .int (iZ (p1 : Int))), (2, .int (iZ (p2 : Int))), (3, .int (iZ (p3 : Int))), (4, .int (iZ (x1 : Int))), (5, .int (iZ (x2 : Int))), (6, .int (iZ (x3 : Int))), (7, .long (lZ w1)), (9, .long (lZ w2))]) [1, 2, 3, 4, 5, 6, 7, 8, 0] C dX7_three_96 (by decide) rfl ?_
  refine g_aload_n 0 C rfl dX7_three_98 rfl ?_
  refine gf_X7_35 C dX7_three_99 ?_
  refine g_iconst C dX7_three_102 ?_
  refine g_iload_n 2 C rfl dX7_three_103 rfl ?_
  refine g_imul C dX7_three_104 ?_
  refine g_iload 4 C rfl dX7_three_105 ?_
  refine g_iadd C dX7_three_107 ?_
  refine g_lald C 8 ((5 * p2) + x1) (by decide) (fun _ => rfl) (by omega) (by omega) (by decide) dX7_three_108 ?_
  refine g_aload_n 0 C rfl dX7_three_109 rfl ?_
  refine gf_X7_35 C dX7_three_110 ?_
  refine g_iconst C dX7_three_113 ?_
  refine g_iload_n 3 C rfl dX7_three_114 rfl ?_
  refine g_imul C dX7_three_115 ?_
  refine g_iload 5 C rfl dX7_three_116 ?_
  refine g_iadd C dX7_three_118 ?_
  refine g_lald C 8 ((5 * p3) + x2) (by decide) (fun _ => rfl) (by omega) (by omega) (by decide) dX7_three_119 ?_
  refine g_lmul C dX7_three_120 ?_
  refine g_aload_n 0 C rfl dX7_three_121 rfl ?_
  refine gf_X7_35 C dX7_three_122 ?_
  refine g_iconst C dX7_three_125 ?_
  refine g_iload_n 2 C rfl dX7_three_126 rfl ?_
  refine g_imul C dX7_three_127 ?_
  refine g_iload 5 C rfl dX7_three_128 ?_
  refine g_iadd C dX7_three_130 ?_
  refine g_lald C 8 ((5 * p2) + x2) (by decide) (fun _ => rfl) (by omega) (by omega) (by decide) dX7_three_131 ?_
  refine g_aload_n 0 C rfl dX7_three_132 rfl ?_
  refine gf_X7_35 C dX7_three_133 ?_
  refine g_iconst C dX7_three_136 ?_
  refine g_iload_n 3 C rfl dX7_three_137 rfl ?_
  refine g_imul C dX7_three_138 ?_
  refine g_iload 4 C rfl dX7_three_139 ?_
  refine g_iadd C dX7_three_141 ?_
  refine g_lald C 8 ((5 * p3) + x1) (by decide) (fun _ => rfl) (by omega) (by omega) (by decide) dX7_three_142 ?_
  refine g_lmul C dX7_three_143 ?_
  refine g_lsub C dX7_three_144 ?_
  refine g_lname (fun w3 ew3 => ?_)
  refine g_lstore (lv' := [(0, .ref (q 0)), (1, .int (iZ (p1 : Int))), (2, .int (iZ (p2 : Int))), (3, .int (iZ (p3 : Int))), (4, .int (iZ (x1 : Int))), (5, .int (iZ (x2 : Int))), (6, .int (iZ (x3 : Int))), (7, .long (lZ w1)), (9, .long (lZ w2)), (11, .long (lZ w3))]) [1, 2, 3, 4, 5, 6, 7, 8, 9, 0] C dX7_three_145 (by decide) rfl ?_
  refine g_aload_n 0 C rfl dX7_three_147 rfl ?_
  refine gf_X7_35 C dX7_three_148 ?_
  refine g_iconst C dX7_three_151 ?_
  refine g_iload_n 1 C rfl dX7_three_152 rfl ?_
  refine g_imul C dX7_three_153 ?_
  refine g_iload 4 C rfl dX7_three_154 ?_
  refine g_iadd C dX7_three_156 ?_
  refine g_lald C 8 ((5 * p1) + x1) (by decide) (fun _ => rfl) (by omega) (by omega) (by decide) dX7_three_157 ?_
  refine g_lload 7 C rfl dX7_three_158 ?_
  refine g_lmul C dX7_three_160 ?_
  refine g_aload_n 0 C rfl dX7_three_161 rfl ?_
  refine gf_X7_35 C dX7_three_162 ?_
  refine g_iconst C dX7_three_165 ?_
  refine g_iload_n 1 C rfl dX7_three_166 rfl ?_
  refine g_imul C dX7_three_167 ?_
  refine g_iload 5 C rfl dX7_three_168 ?_
  refine g_iadd C dX7_three_170 ?_
  refine g_lald C 8 ((5 * p1) + x2) (by decide) (fun _ => rfl) (by omega) (by omega) (by decide) dX7_three_171 ?_
  refine g_lload 8 C rfl dX7_three_172 ?_
  refine g_lmul C dX7_three_174 ?_
  refine g_lsub C dX7_three_175 ?_
  refine g_aload_n 0 C rfl dX7_three_176 rfl ?_
  refine gf_X7_35 C dX7_three_177 ?_
  refine g_iconst C dX7_three_180 ?_
  refine g_iload_n 1 C rfl dX7_three_181 rfl ?_
  refine g_imul C dX7_three_182 ?_
  refine g_iload 6 C rfl dX7_three_183 ?_
  refine g_iadd C dX7_three_185 ?_
  refine g_lald C 8 ((5 * p1) + x3) (by decide) (fun _ => rfl) (by omega) (by omega) (by decide) dX7_three_186 ?_
  refine g_lload 9 C rfl dX7_three_187 ?_
  refine g_lmul C dX7_three_189 ?_
  refine g_ladd C dX7_three_190 ?_
  refine g_lret (u := ()) C T dX7_three_191 ?_
  refine ⟨_, rfl, ?_⟩
  subst ew3
  subst ew2
  subst ew1
  rfl
set_option maxHeartbeats 4000000 in
set_option maxRecDepth 20000 in
theorem c_X7_pair (g : Gx) {q : Nat → Nat} {σ : Nat → Nat → Int} {p1 p2 x1 x2 : Nat} (h1 : p1 < 16) (h2 : p2 < 16) (h4 : x1 < 5) (h5 : x2 < 5) : MC g yX7_pair cX7_pair 5 ((some .long)) 0 0 (WM g q σ) [.ref (q 0), .int (iZ (p1 : Int)), .int (iZ (p2 : Int)), .int (iZ (x1 : Int)), .int (iZ (x2 : Int))] (fun _ : Unit => WM g q σ) (pL (fun z _ => z = rwf σ p1 x1 * rwf σ p2 x2 - rwf σ p1 x2 * rwf σ p2 x1)) := by
  refine MC_intro (own := RX7) rfl (by decide) (Nat.le_of_ble_eq_true rfl) (fun K C T => ?_)
  show GJ g K (WM g q σ) 0 [(0, .ref (q 0)), (1, .int (iZ (p1 : Int))), (2, .int (iZ (p2 : Int))), (3, .int (iZ (x1 : Int))), (4, .int (iZ (x2 : Int)))] []
  refine g_aload_n 0 C rfl dX7_pair_0 rfl ?_
  refine gf_X7_35 C dX7_pair_1 ?_
  refine g_iconst C dX7_pair_4 ?_
  refine g_iload_n 1 C rfl dX7_pair_5 rfl ?_
  refine g_imul C dX7_pair_6 ?_
  refine g_iload_n 3 C rfl dX7_pair_7 rfl ?_
  refine g_iadd C dX7_pair_8 ?_
  refine g_lald C 8 ((5 * p1) + x1) (by decide) (fun _ => rfl) (by omega) (by omega) (by decide) dX7_pair_9 ?_
  refine g_aload_n 0 C rfl dX7_pair_10 rfl ?_
  refine gf_X7_35 C dX7_pair_11 ?_
  refine g_iconst C dX7_pair_14 ?_
  refine g_iload_n 2 C rfl dX7_pair_15 rfl ?_
  refine g_imul C dX7_pair_16 ?_
  refine g_iload 4 C rfl dX7_pair_17 ?_
  refine g_iadd C dX7_pair_19 ?_
  refine g_lald C 8 ((5 * p2) + x2) (by decide) (fun _ => rfl) (by omega) (by omega) (by decide) dX7_pair_20 ?_
  refine g_lmul C dX7_pair_21 ?_
  refine g_aload_n 0 C rfl dX7_pair_22 rfl ?_
  refine gf_X7_35 C dX7_pair_23 ?_
  refine g_iconst C dX7_pair_26 ?_
  refine g_iload_n 1 C rfl dX7_pair_27 rfl ?_
  refine g_imul C dX7_pair_28 ?_
  refine g_iload 4 C rfl dX7_pair_29 ?_
  refine g_iadd C dX7_pair_31 ?_
  refine g_lald C 8 ((5 * p1) + x2) (by decide) (fun _ => rfl) (by omega) (by omega) (by decide) dX7_pair_32 ?_
  refine g_aload_n 0 C rfl dX7_pair_33 rfl ?_
  refine gf_X7_35 C dX7_pair_34 ?_
  refine g_iconst C dX7_pair_37 ?_
  refine g_iload_n 2 C rfl dX7_pair_38 rfl ?_
  refine g_imul C dX7_pair_39 ?_
  refine g_iload_n 3 C rfl dX7_pair_40 rfl ?_
  refine g_iadd C dX7_pair_41 ?_
  refine g_lald C 8 ((5 * p2) + x1) (by decide) (fun _ => rfl) (by omega) (by omega) (by decide) dX7_pair_42 ?_
  refine g_lmul C dX7_pair_43 ?_
  refine g_lsub C dX7_pair_44 ?_
  refine g_lret (u := ()) C T dX7_pair_45 ?_
  exact ⟨_, rfl, rfl⟩
set_option maxHeartbeats 4000000 in
set_option maxRecDepth 20000 in
theorem c_X7_setRow (g : Gx) {q : Nat → Nat} {σ : Nat → Nat → Int} {r : Nat} {a b k t z : Int} (h1 : r < 16) : MC g yX7_setRow cX7_setRow 12 (none) 0 0 (WM g q σ) [.ref (q 0), .int (iZ (r : Int)), .long (lZ a), .long (lZ b), .long (lZ k), .long (lZ t), .long (lZ z)] (fun u => WM g q u) (pV (fun u => u = up (up (up (up (up σ 8 (5 * r) a) 8 (5 * r + 1) b) 8 (5 * r + 2) k) 8 (5 * r + 3) t) 8 (5 * r + 4) z)) := by
  refine MC_intro (own := RX7) rfl (by decide) (Nat.le_of_ble_eq_true rfl) (fun K C T => ?_)
  show GJ g K (WM g q σ) 0 [(0, .ref (q 0)), (1, .int (iZ (r : Int))), (2, .long (lZ a)), (4, .long (lZ b)), (6, .long (lZ k)), (8, .long (lZ t)), (10, .long (lZ z))] []
  refine g_aload_n 0 C rfl dX7_setRow_0 rfl ?_
  refine gf_X7_35 C dX7_setRow_1 ?_
  refine g_iconst C dX7_setRow_4 ?_
  refine g_iload_n 1 C rfl dX7_setRow_5 rfl ?_
  refine g_imul C dX7_setRow_6 ?_
  refine g_lload_n 2 C rfl dX7_setRow_7 rfl ?_
  refine g_last C 8 (5 * r) (by decide) (fun _ => rfl) (by omega) (by omega) (by decide) dX7_setRow_8 ?_
  refine g_aload_n 0 C rfl dX7_setRow_9 rfl ?_
  refine gf_X7_35 C dX7_setRow_10 ?_
  refine g_iconst C dX7_setRow_13 ?_
  refine g_iload_n 1 C rfl dX7_setRow_14 rfl ?_
  refine g_imul C dX7_setRow_15 ?_
  refine g_iconst C dX7_setRow_16 ?_
  refine g_iadd C dX7_setRow_17 ?_
  refine g_lload 3 C rfl dX7_setRow_18 ?_
  refine g_last C 8 ((5 * r) + 1) (by decide) (fun _ => rfl) (by omega) (by omega) (by decide) dX7_setRow_20 ?_
  refine g_aload_n 0 C rfl dX7_setRow_21 rfl ?_
  refine gf_X7_35 C dX7_setRow_22 ?_
  refine g_iconst C dX7_setRow_25 ?_
  refine g_iload_n 1 C rfl dX7_setRow_26 rfl ?_
  refine g_imul C dX7_setRow_27 ?_
  refine g_iconst C dX7_setRow_28 ?_
  refine g_iadd C dX7_setRow_29 ?_
  refine g_lload 4 C rfl dX7_setRow_30 ?_
  refine g_last C 8 ((5 * r) + 2) (by decide) (fun _ => rfl) (by omega) (by omega) (by decide) dX7_setRow_32 ?_
  refine g_aload_n 0 C rfl dX7_setRow_33 rfl ?_
  refine gf_X7_35 C dX7_setRow_34 ?_
  refine g_iconst C dX7_setRow_37 ?_
  refine g_iload_n 1 C rfl dX7_setRow_38 rfl ?_
  refine g_imul C dX7_setRow_39 ?_
  refine g_iconst C dX7_setRow_40 ?_
  refine g_iadd C dX7_setRow_41 ?_
  refine g_lload 5 C rfl dX7_setRow_42 ?_
  refine g_last C 8 ((5 * r) + 3) (by decide) (fun _ => rfl) (by omega) (by omega) (by decide) dX7_setRow_44 ?_
  refine g_aload_n 0 C rfl dX7_setRow_45 rfl ?_
  refine gf_X7_35 C dX7_setRow_46 ?_
  refine g_iconst C dX7_setRow_49 ?_
  refine g_iload_n 1 C rfl dX7_setRow_50 rfl ?_
  refine g_imul C dX7_setRow_51 ?_
  refine g_iconst C dX7_setRow_52 ?_
  refine g_iadd C dX7_setRow_53 ?_
  refine g_lload 6 C rfl dX7_setRow_54 ?_
  refine g_last C 8 ((5 * r) + 4) (by decide) (fun _ => rfl) (by omega) (by omega) (by decide) dX7_setRow_56 ?_
  refine g_vret (u := (up (up (up (up (up σ 8 (5 * r) a) 8 ((5 * r) + 1) b) 8 ((5 * r) + 2) k) 8 ((5 * r) + 3) t) 8 ((5 * r) + 4) z)) C T dX7_setRow_57 ?_
  exact ⟨rfl, rfl⟩
set_option maxHeartbeats 4000000 in
set_option maxRecDepth 20000 in
theorem lp_X7_momentAt {g : Gx} {K : Kx} {q : Nat → Nat} {σ : Nat → Nat → Int} {nn i : Nat} {Z : Int} (hn : σ 0 0 = (nn : Int)) (hn2 : 2 ≤ nn) (hn6 : nn ≤ 6) (hi : i ≤ nn) (hZ : Z = mosum (σ 1) (σ 4) (σ 1 nn) i nn) (C : CX g K cX7_momentAt RX7 4 0 0) (T : RT g K (some .int) (fun _ : Unit => WM g q σ) (pI (fun z _ => z = Z))) : ∀ (d j : Nat), 1 ≤ j → j ≤ nn → nn < j + d → ∀ m : Int, m = mosum (σ 1) (σ 4) (σ 1 nn) i j → GJ g K (WM g q σ) 4 [(0, .ref (q 0)), (1, .int (iZ (i : Int))), (2, .int (iZ m)), (3, .int (iZ (j : Int)))] [] := by
  intro d
  induction d with
  | zero => intro j h1 h2 h3; omega
  | succ d ih =>
    intro j hj1 hj2 hj3 m hm
    refine g_iload_n 3 C rfl dX7_momentAt_4 rfl ?_
    refine g_aload_n 0 C rfl dX7_momentAt_5 rfl ?_
    refine gf_X7_7 C dX7_momentAt_6 ?_
    rw [show σ 0 0 = (nn : Int) from hn]
    refine g_icmp_ge 93 C (by unfold I32; omega) (by unfold I32; omega) dX7_momentAt_9 (by decide) (fun h1 => ?_) (fun h1 => ?_)
    · refine g_iload_n 2 C rfl dX7_momentAt_93 rfl ?_
      refine g_iret (u := ()) C T dX7_momentAt_94 ?_
      refine ⟨_, rfl, ?_⟩
      rw [hZ, hm]
      congr 1
      omega
    · refine g_iload_n 2 C rfl dX7_momentAt_12 rfl ?_
      refine g_aload_n 0 C rfl dX7_momentAt_13 rfl ?_
      refine gf_X7_13 C dX7_momentAt_14 ?_
      refine g_iload_n 1 C rfl dX7_momentAt_17 rfl ?_
      refine g_iald C 1 i (by decide) (fun _ => rfl) (by omega) (by omega) (by decide) dX7_momentAt_18 ?_
      refine g_aload_n 0 C rfl dX7_momentAt_19 rfl ?_
      refine gf_X7_23 C dX7_momentAt_20 ?_
      refine g_iload_n 3 C rfl dX7_momentAt_23 rfl ?_
      refine g_iald C 4 j (by decide) (fun _ => rfl) (by omega) (by omega) (by decide) dX7_momentAt_24 ?_
      refine g_imul C dX7_momentAt_25 ?_
      refine g_aload_n 0 C rfl dX7_momentAt_26 rfl ?_
      refine gf_X7_13 C dX7_momentAt_27 ?_
      refine g_aload_n 0 C rfl dX7_momentAt_30 rfl ?_
      refine gf_X7_7 C dX7_momentAt_31 ?_
      rw [show σ 0 0 = (nn : Int) from hn]
      refine g_iald C 1 nn (by decide) (fun _ => rfl) (by omega) (by omega) (by decide) dX7_momentAt_34 ?_
      refine g_aload_n 0 C rfl dX7_momentAt_35 rfl ?_
      refine gf_X7_13 C dX7_momentAt_36 ?_
      refine g_iload_n 3 C rfl dX7_momentAt_39 rfl ?_
      refine g_iald C 1 j (by decide) (fun _ => rfl) (by omega) (by omega) (by decide) dX7_momentAt_40 ?_
      refine g_isub C dX7_momentAt_41 ?_
      refine g_imul C dX7_momentAt_42 ?_
      refine g_iadd C dX7_momentAt_43 ?_
      refine g_iname (fun w2 ew2 => ?_)
      refine g_istore_n (lv' := [(0, .ref (q 0)), (1, .int (iZ (i : Int))), (2, .int (iZ w2)), (3, .int (iZ (j : Int)))]) [1, 2, 0, 3] C dX7_momentAt_44 rfl (by decide) rfl ?_
      refine g_iload_n 2 C rfl dX7_momentAt_45 rfl ?_
      refine g_iload_n 3 C rfl dX7_momentAt_46 rfl ?_
      refine g_iload_n 1 C rfl dX7_momentAt_47 rfl ?_
      refine g_icmp_ge 84 C (by unfold I32; omega) (by unfold I32; omega) dX7_momentAt_48 (by decide) (fun h3 => ?_) (fun h3 => ?_)
      · refine g_iconst C dX7_momentAt_84 ?_
        refine g_isub C dX7_momentAt_85 ?_
        refine g_iname (fun w4 ew4 => ?_)
        refine g_istore_n (lv' := [(0, .ref (q 0)), (1, .int (iZ (i : Int))), (2, .int (iZ w4)), (3, .int (iZ (j : Int)))]) [1, 2, 0, 3] C dX7_momentAt_86 rfl (by decide) rfl ?_
        refine g_iinc (lv' := [(0, .ref (q 0)), (1, .int (iZ (i : Int))), (2, .int (iZ w4)), (3, .int (iZ ((j : Int) + 1)))]) 3 [1, 2, 3, 0] C rfl dX7_momentAt_87 (by decide) rfl ?_
        refine g_goto 4 C dX7_momentAt_90 (by decide) ?_
        refine ih (j + 1) (by omega) (by omega) (by omega) w4 ?_
        obtain ⟨j9, rfl⟩ : ∃ j9, j = j9 + 1 := ⟨j - 1, by omega⟩
        rw [ew4]
        rw [ew2]
        rw [hm]
        show _ = mosum (σ 1) (σ 4) (σ 1 nn) i (j9 + 2)
        rw [mosum_s]
        first | rw [if_pos (by omega)] | rw [if_neg (by omega)]
      · refine g_aload_n 0 C rfl dX7_momentAt_51 rfl ?_
        refine gf_X7_13 C dX7_momentAt_52 ?_
        refine g_aload_n 0 C rfl dX7_momentAt_55 rfl ?_
        refine gf_X7_7 C dX7_momentAt_56 ?_
        rw [show σ 0 0 = (nn : Int) from hn]
        refine g_iald C 1 nn (by decide) (fun _ => rfl) (by omega) (by omega) (by decide) dX7_momentAt_59 ?_
        refine g_aload_n 0 C rfl dX7_momentAt_60 rfl ?_
        refine gf_X7_23 C dX7_momentAt_61 ?_
        refine g_iload_n 3 C rfl dX7_momentAt_64 rfl ?_
        refine g_iald C 4 j (by decide) (fun _ => rfl) (by omega) (by omega) (by decide) dX7_momentAt_65 ?_
        refine g_imul C dX7_momentAt_66 ?_
        refine g_aload_n 0 C rfl dX7_momentAt_67 rfl ?_
        refine gf_X7_13 C dX7_momentAt_68 ?_
        refine g_iload_n 1 C rfl dX7_momentAt_71 rfl ?_
        refine g_iald C 1 i (by decide) (fun _ => rfl) (by omega) (by omega) (by decide) dX7_momentAt_72 ?_
        refine g_aload_n 0 C rfl dX7_momentAt_73 rfl ?_
        refine gf_X7_13 C dX7_momentAt_74 ?_
        refine g_iload_n 3 C rfl dX7_momentAt_77 rfl ?_
        refine g_iald C 1 j (by decide) (fun _ => rfl) (by omega) (by omega) (by decide) dX7_momentAt_78 ?_
        refine g_isub C dX7_momentAt_79 ?_
        refine g_imul C dX7_momentAt_80 ?_
        refine g_goto 85 C dX7_momentAt_81 (by decide) ?_
        refine g_isub C dX7_momentAt_85 ?_
        refine g_iname (fun w5 ew5 => ?_)
        refine g_istore_n (lv' := [(0, .ref (q 0)), (1, .int (iZ (i : Int))), (2, .int (iZ w5)), (3, .int (iZ (j : Int)))]) [1, 2, 0, 3] C dX7_momentAt_86 rfl (by decide) rfl ?_
        refine g_iinc (lv' := [(0, .ref (q 0)), (1, .int (iZ (i : Int))), (2, .int (iZ w5)), (3, .int (iZ ((j : Int) + 1)))]) 3 [1, 2, 3, 0] C rfl dX7_momentAt_87 (by decide) rfl ?_
        refine g_goto 4 C dX7_momentAt_90 (by decide) ?_
        refine ih (j + 1) (by omega) (by omega) (by omega) w5 ?_
        obtain ⟨j9, rfl⟩ : ∃ j9, j = j9 + 1 := ⟨j - 1, by omega⟩
        rw [ew5]
        rw [ew2]
        rw [hm]
        show _ = mosum (σ 1) (σ 4) (σ 1 nn) i (j9 + 2)
        rw [mosum_s]
        first | rw [if_pos (by omega)] | rw [if_neg (by omega)]
set_option maxHeartbeats 4000000 in
set_option maxRecDepth 20000 in
theorem c_X7_momentAt (g : Gx) {q : Nat → Nat} {σ : Nat → Nat → Int} {nn i : Nat} (hn : σ 0 0 = (nn : Int)) (hn2 : 2 ≤ nn) (hn6 : nn ≤ 6) (hi : i ≤ nn) : MC g yX7_momentAt cX7_momentAt 4 ((some .int)) 0 0 (WM g q σ) [.ref (q 0), .int (iZ (i : Int))] (fun _ : Unit => WM g q σ) (pI (fun z _ => z = mosum (σ 1) (σ 4) (σ 1 nn) i nn)) := by
  refine MC_intro (own := RX7) rfl (by decide) (Nat.le_of_ble_eq_true rfl) (fun K C T => ?_)
  show GJ g K (WM g q σ) 0 [(0, .ref (q 0)), (1, .int (iZ (i : Int)))] []
  refine g_iconst C dX7_momentAt_0 ?_
  refine g_istore_n (lv' := [(0, .ref (q 0)), (1, .int (iZ (i : Int))), (2, .int (iZ 0))]) [1, 2, 0] C dX7_momentAt_1 rfl (by decide) rfl ?_
  refine g_iconst C dX7_momentAt_2 ?_
  refine g_istore_n (lv' := [(0, .ref (q 0)), (1, .int (iZ (i : Int))), (2, .int (iZ 0)), (3, .int (iZ 1))]) [1, 2, 3, 0] C dX7_momentAt_3 rfl (by decide) rfl ?_
  exact lp_X7_momentAt hn hn2 hn6 hi rfl C T nn 1 (by omega) (by omega) (by omega) 0 rfl
end
section
/-- nothing but cells of spot and 'by' -/
def FrS (σ u : Nat → Nat → Int) : Prop := (∀ c, c ≠ 0 → c ≠ 9 → u c = σ c) ∧ ∀ j, j ≠ 11 → u 0 j = σ 0 j
set_option maxHeartbeats 4000000 in
set_option maxRecDepth 20000 in
theorem c_X7_turnSpot (g : Gx) {q : Nat → Nat} {σ : Nat → Nat → Int} (hb : I64 (σ 0 11)) : MC g yX7_turnSpot cX7_turnSpot 2 (none) 0 0 (WM g q σ) [.ref (q 0)] (fun u => WM g q u) (pV (fun u => FrS σ u ∧ ((0 ≤ σ 0 11 ∧ u = σ) ∨ (σ 0 11 < 0 ∧ u 0 11 = -σ 0 11 ∧ ∀ c, c < 4 → u 9 c = -σ 9 c)))) := by
  refine MC_intro (own := RX7) rfl (by decide) (Nat.le_of_ble_eq_true rfl) (fun K C T => ?_)
  show GJ g K (WM g q σ) 0 [(0, .ref (q 0))] []
  refine g_aload_n 0 C rfl dX7_turnSpot_0 rfl ?_
  refine gf_X7_91 C dX7_turnSpot_1 ?_
  refine g_lconst 0 C dX7_turnSpot_4 (by decide) ?_
  refine g_lcmp_ge 44 C hb (by unfold I64; omega) dX7_turnSpot_5 dX7_turnSpot_6 (by decide) (fun h1 => ?_) (fun h1 => ?_)
  · refine g_vret (u := σ) C T dX7_turnSpot_44 ?_
    exact ⟨rfl, ⟨fun _ _ _ => rfl, fun _ _ => rfl⟩, Or.inl ⟨h1, rfl⟩⟩
  · refine g_aload_n 0 C rfl dX7_turnSpot_9 rfl ?_
    refine g_aload_n 0 C rfl dX7_turnSpot_10 rfl ?_
    refine gf_X7_91 C dX7_turnSpot_11 ?_
    refine g_lneg C dX7_turnSpot_14 ?_
    refine pf_X7_91 C dX7_turnSpot_15 ?_
    refine g_iconst C dX7_turnSpot_18 ?_
    refine g_istore_n (lv' := [(0, .ref (q 0)), (1, .int (iZ 0))]) [1, 0] C dX7_turnSpot_19 rfl (by decide) rfl ?_
    refine g_iload_n 1 C rfl dX7_turnSpot_20 rfl ?_
    refine g_iconst C dX7_turnSpot_21 ?_
    refine g_icmp_ge 44 C (by unfold I32; omega) (by unfold I32; omega) dX7_turnSpot_22 (by decide) (fun h2 => ?_) (fun h2 => ?_)
    · exact absurd h2 (by decide)
    refine g_aload_n 0 C rfl dX7_turnSpot_25 rfl ?_
    refine gf_X7_39 C dX7_turnSpot_26 ?_
    refine g_iload_n 1 C rfl dX7_turnSpot_29 rfl ?_
    refine g_aload_n 0 C rfl dX7_turnSpot_30 rfl ?_
    refine gf_X7_39 C dX7_turnSpot_31 ?_
    refine g_iload_n 1 C rfl dX7_turnSpot_34 rfl ?_
    refine g_lald C 9 0 (by decide) (fun _ => rfl) (by omega) (by omega) (by decide) dX7_turnSpot_35 ?_
    rw [show (up σ 0 11 (-(σ 0 11))) 9 0 = σ 9 0 from rfl]
    refine g_lneg C dX7_turnSpot_36 ?_
    refine g_last C 9 0 (by decide) (fun _ => rfl) (by omega) (by omega) (by decide) dX7_turnSpot_37 ?_
    refine g_iinc (lv' := [(0, .ref (q 0)), (1, .int (iZ 1))]) 1 [1, 0] C rfl dX7_turnSpot_38 (by decide) rfl ?_
    refine g_goto 20 C dX7_turnSpot_41 (by decide) ?_
    refine g_iload_n 1 C rfl dX7_turnSpot_20 rfl ?_
    refine g_iconst C dX7_turnSpot_21 ?_
    refine g_icmp_ge 44 C (by unfold I32; omega) (by unfold I32; omega) dX7_turnSpot_22 (by decide) (fun h3 => ?_) (fun h3 => ?_)
    · exact absurd h3 (by decide)
    refine g_aload_n 0 C rfl dX7_turnSpot_25 rfl ?_
    refine gf_X7_39 C dX7_turnSpot_26 ?_
    refine g_iload_n 1 C rfl dX7_turnSpot_29 rfl ?_
    refine g_aload_n 0 C rfl dX7_turnSpot_30 rfl ?_
    refine gf_X7_39 C dX7_turnSpot_31 ?_
    refine g_iload_n 1 C rfl dX7_turnSpot_34 rfl ?_
    refine g_lald C 9 1 (by decide) (fun _ => rfl) (by omega) (by omega) (by decide) dX7_turnSpot_35 ?_
    rw [show (up (up σ 0 11 (-(σ 0 11))) 9 0 (-(σ 9 0))) 9 1 = σ 9 1 from rfl]
    refine g_lneg C dX7_turnSpot_36 ?_
    refine g_last C 9 1 (by decide) (fun _ => rfl) (by omega) (by omega) (by decide) dX7_turnSpot_37 ?_
    refine g_iinc (lv' := [(0, .ref (q 0)), (1, .int (iZ 2))]) 1 [1, 0] C rfl dX7_turnSpot_38 (by decide) rfl ?_
    refine g_goto 20 C dX7_turnSpot_41 (by decide) ?_
    refine g_iload_n 1 C rfl dX7_turnSpot_20 rfl ?_
    refine g_iconst C dX7_turnSpot_21 ?_
    refine g_icmp_ge 44 C (by unfold I32; omega) (by unfold I32; omega) dX7_turnSpot_22 (by decide) (fun h4 => ?_) (fun h4 => ?_)
    · exact absurd h4 (by decide)
    refine g_aload_n 0 C rfl dX7_turnSpot_25 rfl ?_
    refine gf_X7_39 C dX7_turnSpot_26 ?_
    refine g_iload_n 1 C rfl dX7_turnSpot_29 rfl ?_
    refine g_aload_n 0 C rfl dX7_turnSpot_30 rfl ?_
    refine gf_X7_39 C dX7_turnSpot_31 ?_
    refine g_iload_n 1 C rfl dX7_turnSpot_34 rfl ?_
    refine g_lald C 9 2 (by decide) (fun _ => rfl) (by omega) (by omega) (by decide) dX7_turnSpot_35 ?_
    rw [show (up (up (up σ 0 11 (-(σ 0 11))) 9 0 (-(σ 9 0))) 9 1 (-(σ 9 1))) 9 2 = σ 9 2 from rfl]
    refine g_lneg C dX7_turnSpot_36 ?_
    refine g_last C 9 2 (by decide) (fun _ => rfl) (by omega) (by omega) (by decide) dX7_turnSpot_37 ?_
    refine g_iinc (lv' := [(0, .ref (q 0)), (1, .int (iZ 3))]) 1 [1, 0] C rfl dX7_turnSpot_38 (by decide) rfl ?_
    refine g_goto 20 C dX7_turnSpot_41 (by decide) ?_
    refine g_iload_n 1 C rfl dX7_turnSpot_20 rfl ?_
    refine g_iconst C dX7_turnSpot_21 ?_
    refine g_icmp_ge 44 C (by unfold I32; omega) (by unfold I32; omega) dX7_turnSpot_22 (by decide) (fun h5 => ?_) (fun h5 => ?_)
    · exact absurd h5 (by decide)
    refine g_aload_n 0 C rfl dX7_turnSpot_25 rfl ?_
    refine gf_X7_39 C dX7_turnSpot_26 ?_
    refine g_iload_n 1 C rfl dX7_turnSpot_29 rfl ?_
    refine g_aload_n 0 C rfl dX7_turnSpot_30 rfl ?_
    refine gf_X7_39 C dX7_turnSpot_31 ?_
    refine g_iload_n 1 C rfl dX7_turnSpot_34 rfl ?_
    refine g_lald C 9 3 (by decide) (fun _ => rfl) (by omega) (by omega) (by decide) dX7_turnSpot_35 ?_
    rw [show (up (up (up (up σ 0 11 (-(σ 0 11))) 9 0 (-(σ 9 0))) 9 1 (-(σ 9 1))) 9 2 (-(σ 9 2))) 9 3 = σ 9 3 from rfl]
    refine g_lneg C dX7_turnSpot_36 ?_
    refine g_last C 9 3 (by decide) (fun _ => rfl) (by omega) (by omega) (by decide) dX7_turnSpot_37 ?_
    refine g_iinc (lv' := [(0, .ref (q 0)), (1, .int (iZ 4))]) 1 [1, 0] C rfl dX7_turnSpot_38 (by decide) rfl ?_
    refine g_goto 20 C dX7_turnSpot_41 (by decide) ?_
    refine g_iload_n 1 C rfl dX7_turnSpot_20 rfl ?_
    refine g_iconst C dX7_turnSpot_21 ?_
    refine g_icmp_ge 44 C (by unfold I32; omega) (by unfold I32; omega) dX7_turnSpot_22 (by decide) (fun h6 => ?_) (fun h6 => ?_)
    · refine g_vret (u := (up (up (up (up (up σ 0 11 (-(σ 0 11))) 9 0 (-(σ 9 0))) 9 1 (-(σ 9 1))) 9 2 (-(σ 9 2))) 9 3 (-(σ 9 3)))) C T dX7_turnSpot_44 ?_
      refine ⟨rfl, ⟨fun c h8 h9 => by simp [up, h8, h9], fun j h9 => by simp [up, updI, h9]⟩, Or.inr ⟨h1, rfl, fun c hc => ?_⟩⟩
      rcases (show c = 0 ∨ c = 1 ∨ c = 2 ∨ c = 3 by omega) with rfl | rfl | rfl | rfl <;> rfl
    · exact absurd h6 (by decide)
def Keeps (σ : Nat → Nat → Int) (n : Nat) : Prop := ∀ r, r < n → rwf σ r 4 * σ 0 11 ≤ lin σ r
set_option maxHeartbeats 4000000 in
set_option maxRecDepth 20000 in
theorem lp_X7_keepsAll {g : Gx} {K : Kx} {q : Nat → Nat} {σ : Nat → Nat → Int} {nr : Nat} (hn : σ 0 9 = (nr : Int)) (hn6 : nr ≤ 16) (hB : ∀ r, r < nr → I64 (lin σ r) ∧ I64 (rwf σ r 4 * σ 0 11)) (C : CX g K cX7_keepsAll RX7 4 0 0) (T : RT g K (some .boolean) (fun _ : Unit => WM g q σ) (pI (fun z _ => z = bZ (Keeps σ nr)))) : ∀ (d r : Nat), r ≤ nr → nr < r + d → (∀ r', r' < r → rwf σ r' 4 * σ 0 11 ≤ lin σ r') → GJ g K (WM g q σ) 2 [(0, .ref (q 0)), (1, .int (iZ (r : Int)))] [] := by
  intro d
  induction d with
  | zero => intro r h1 h2; omega
  | succ d ih =>
    intro r hr hd hI
    refine g_iload_n 1 C rfl dX7_keepsAll_2 rfl ?_
    refine g_aload_n 0 C rfl dX7_keepsAll_3 rfl ?_
    refine gf_X7_88 C dX7_keepsAll_4 ?_
    rw [show σ 0 9 = (nr : Int) from hn]
    refine g_icmp_ge 108 C (by unfold I32; omega) (by unfold I32; omega) dX7_keepsAll_7 (by decide) (fun h1 => ?_) (fun h1 => ?_)
    · refine g_iconst C dX7_keepsAll_108 ?_
      refine g_zret (u := ()) C T dX7_keepsAll_109 (by omega) ?_
      refine ⟨_, rfl, (bZ_t (fun r9 h9 => hI r9 (by omega))).symm⟩
    · refine g_aload_n 0 C rfl dX7_keepsAll_10 rfl ?_
      refine gf_X7_35 C dX7_keepsAll_11 ?_
      refine g_iconst C dX7_keepsAll_14 ?_
      refine g_iload_n 1 C rfl dX7_keepsAll_15 rfl ?_
      refine g_imul C dX7_keepsAll_16 ?_
      refine g_lald C 8 (5 * r) (by decide) (fun _ => rfl) (by omega) (by omega) (by decide) dX7_keepsAll_17 ?_
      refine g_aload_n 0 C rfl dX7_keepsAll_18 rfl ?_
      refine gf_X7_39 C dX7_keepsAll_19 ?_
      refine g_iconst C dX7_keepsAll_22 ?_
      refine g_lald C 9 0 (by decide) (fun _ => rfl) (by omega) (by omega) (by decide) dX7_keepsAll_23 ?_
      refine g_lmul C dX7_keepsAll_24 ?_
      refine g_aload_n 0 C rfl dX7_keepsAll_25 rfl ?_
      refine gf_X7_35 C dX7_keepsAll_26 ?_
      refine g_iconst C dX7_keepsAll_29 ?_
      refine g_iload_n 1 C rfl dX7_keepsAll_30 rfl ?_
      refine g_imul C dX7_keepsAll_31 ?_
      refine g_iconst C dX7_keepsAll_32 ?_
      refine g_iadd C dX7_keepsAll_33 ?_
      refine g_lald C 8 ((5 * r) + 1) (by decide) (fun _ => rfl) (by omega) (by omega) (by decide) dX7_keepsAll_34 ?_
      refine g_aload_n 0 C rfl dX7_keepsAll_35 rfl ?_
      refine gf_X7_39 C dX7_keepsAll_36 ?_
      refine g_iconst C dX7_keepsAll_39 ?_
      refine g_lald C 9 1 (by decide) (fun _ => rfl) (by omega) (by omega) (by decide) dX7_keepsAll_40 ?_
      refine g_lmul C dX7_keepsAll_41 ?_
      refine g_ladd C dX7_keepsAll_42 ?_
      refine g_aload_n 0 C rfl dX7_keepsAll_43 rfl ?_
      refine gf_X7_35 C dX7_keepsAll_44 ?_
      refine g_iconst C dX7_keepsAll_47 ?_
      refine g_iload_n 1 C rfl dX7_keepsAll_48 rfl ?_
      refine g_imul C dX7_keepsAll_49 ?_
      refine g_iconst C dX7_keepsAll_50 ?_
      refine g_iadd C dX7_keepsAll_51 ?_
      refine g_lald C 8 ((5 * r) + 2) (by decide) (fun _ => rfl) (by omega) (by omega) (by decide) dX7_keepsAll_52 ?_
      refine g_aload_n 0 C rfl dX7_keepsAll_53 rfl ?_
      refine gf_X7_39 C dX7_keepsAll_54 ?_
      refine g_iconst C dX7_keepsAll_57 ?_
      refine g_lald C 9 2 (by decide) (fun _ => rfl) (by omega) (by omega) (by decide) dX7_keepsAll_58 ?_
      refine g_lmul C dX7_keepsAll_59 ?_
      refine g_ladd C dX7_keepsAll_60 ?_
      refine g_aload_n 0 C rfl dX7_keepsAll_61 rfl ?_
      refine gf_X7_35 C dX7_keepsAll_62 ?_
      refine g_iconst C dX7_keepsAll_65 ?_
      refine g_iload_n 1 C rfl dX7_keepsAll_66 rfl ?_
      refine g_imul C dX7_keepsAll_67 ?_
      refine g_iconst C dX7_keepsAll_68 ?_
      refine g_iadd C dX7_keepsAll_69 ?_
      refine g_lald C 8 ((5 * r) + 3) (by decide) (fun _ => rfl) (by omega) (by omega) (by decide) dX7_keepsAll_70 ?_
      refine g_aload_n 0 C rfl dX7_keepsAll_71 rfl ?_
      refine gf_X7_39 C dX7_keepsAll_72 ?_
      refine g_iconst C dX7_keepsAll_75 ?_
      refine g_lald C 9 3 (by decide) (fun _ => rfl) (by omega) (by omega) (by decide) dX7_keepsAll_76 ?_
      refine g_lmul C dX7_keepsAll_77 ?_
      refine g_ladd C dX7_keepsAll_78 ?_
      refine g_lname (fun w2 ew2 => ?_)
      refine g_lstore_n (lv' := [(0, .ref (q 0)), (1, .int (iZ (r : Int))), (2, .long (lZ w2))]) [1, 2, 0] C dX7_keepsAll_79 rfl (by decide) rfl ?_
      refine g_lload_n 2 C rfl dX7_keepsAll_80 rfl ?_
      refine g_aload_n 0 C rfl dX7_keepsAll_81 rfl ?_
      refine gf_X7_35 C dX7_keepsAll_82 ?_
      refine g_iconst C dX7_keepsAll_85 ?_
      refine g_iload_n 1 C rfl dX7_keepsAll_86 rfl ?_
      refine g_imul C dX7_keepsAll_87 ?_
      refine g_iconst C dX7_keepsAll_88 ?_
      refine g_iadd C dX7_keepsAll_89 ?_
      refine g_lald C 8 ((5 * r) + 4) (by decide) (fun _ => rfl) (by omega) (by omega) (by decide) dX7_keepsAll_90 ?_
      refine g_aload_n 0 C rfl dX7_keepsAll_91 rfl ?_
      refine gf_X7_91 C dX7_keepsAll_92 ?_
      refine g_lmul C dX7_keepsAll_95 ?_
      refine g_lcmp_ge 102 C (by subst ew2; exact (hB r (by omega)).1) ((hB r (by omega)).2) dX7_keepsAll_96 dX7_keepsAll_97 (by decide) (fun h3 => ?_) (fun h3 => ?_)
      · refine g_iinc (lv' := [(0, .ref (q 0)), (1, .int (iZ ((r : Int) + 1))), (2, .long (lZ w2))]) 1 [1, 0, 2] C rfl dX7_keepsAll_102 (by decide) rfl ?_
        refine g_goto 2 C dX7_keepsAll_105 (by decide) ?_
        refine g_lv [0, 1] rfl ?_
        refine ih (r + 1) (by omega) (by omega) (fun r9 h9 => ?_)
        rcases Nat.lt_or_ge r9 r with h8 | h8
        · exact hI r9 h8
        · obtain rfl : r9 = r := by omega
          subst ew2; exact h3
      · refine g_iconst C dX7_keepsAll_100 ?_
        refine g_zret (u := ()) C T dX7_keepsAll_101 (by omega) ?_
        refine ⟨_, rfl, (bZ_f (fun h9 => ?_)).symm⟩
        have h8 := h9 r (by omega)
        subst ew2
        exact absurd h8 (Int.not_le.mpr h3)
set_option maxHeartbeats 4000000 in
set_option maxRecDepth 20000 in
theorem c_X7_keepsAll (g : Gx) {q : Nat → Nat} {σ : Nat → Nat → Int} {nr : Nat} (hn : σ 0 9 = (nr : Int)) (hn6 : nr ≤ 16) (hB : ∀ r, r < nr → I64 (lin σ r) ∧ I64 (rwf σ r 4 * σ 0 11)) : MC g yX7_keepsAll cX7_keepsAll 4 ((some .boolean)) 0 0 (WM g q σ) [.ref (q 0)] (fun _ : Unit => WM g q σ) (pI (fun z _ => z = bZ (Keeps σ nr))) := by
  refine MC_intro (own := RX7) rfl (by decide) (Nat.le_of_ble_eq_true rfl) (fun K C T => ?_)
  show GJ g K (WM g q σ) 0 [(0, .ref (q 0))] []
  refine g_iconst C dX7_keepsAll_0 ?_
  refine g_istore_n (lv' := [(0, .ref (q 0)), (1, .int (iZ 0))]) [1, 0] C dX7_keepsAll_1 rfl (by decide) rfl ?_
  exact lp_X7_keepsAll hn hn6 hB C T (nr + 1) 0 (by omega) (by omega) (fun r9 h9 => absurd h9 (by omega))
def rE (x l m : Nat → Int) (L : Int) (i c : Nat) : Int := match c with
  | 0 => L - x i
  | 1 => x i
  | 2 => m i
  | 3 => 0
  | _ => L * l i
def rO (x u m : Nat → Int) (L : Int) (i c : Nat) : Int := match c with
  | 0 => -(L - x i)
  | 1 => -(x i)
  | 2 => -(m i)
  | 3 => 0
  | _ => -L * u i
def tE (x l u m : Nat → Int) (L : Int) (i c : Nat) : Int := match c with
  | 0 => 2 * (L - x i)
  | 1 => 2 * x i
  | 2 => 2 * m i
  | 3 => L * (u i - l i)
  | _ => L * (u i + l i)
def tO (x l u m : Nat → Int) (L : Int) (i c : Nat) : Int := match c with
  | 0 => (-2) * (L - x i)
  | 1 => (-2) * x i
  | 2 => (-2) * m i
  | 3 => L * (u i - l i)
  | _ => -(L * (u i + l i))
def moM (σ : Nat → Nat → Int) (n i : Nat) : Int := mosum (σ 1) (σ 4) (σ 1 n) i n
/-- nothing but 'row' and 'rows' -/
def FrR (σ u : Nat → Nat → Int) : Prop := (∀ c, c ≠ 0 → c ≠ 8 → u c = σ c) ∧ ∀ j, j ≠ 9 → u 0 j = σ 0 j
def rowsUp (b : Bool) (σ τ : Nat → Nat → Int) (n i : Nat) : Prop := ∀ i', i' < i → ∀ c, c < 5 → rwf τ (2 * i') c = (if b then tE (σ 1) (σ 2) (σ 3) (moM σ n) (σ 1 n) i' c else rE (σ 1) (σ 2) (moM σ n) (σ 1 n) i' c) ∧ rwf τ (2 * i' + 1) c = (if b then tO (σ 1) (σ 2) (σ 3) (moM σ n) (σ 1 n) i' c else rO (σ 1) (σ 3) (moM σ n) (σ 1 n) i' c)
def rowsOK (b : Bool) (σ τ : Nat → Nat → Int) (n : Nat) : Prop := FrR σ τ ∧ rowsUp b σ τ n (n + 1) ∧ (∀ c, c < 5 → rwf τ (2 * n + 2) c = if c = 2 then 1 else 0) ∧ (b = true → ∀ c, c < 5 → rwf τ (2 * n + 3) c = if c = 3 then 1 else 0) ∧ τ 0 9 = 2 * (n : Int) + (if b then 4 else 3)
def sel5 (a b k t z : Int) (c : Nat) : Int := match c with
  | 0 => a
  | 1 => b
  | 2 => k
  | 3 => t
  | _ => z
/-- five numbers laid as a row -/
def put5 (σ : Nat → Nat → Int) (r : Nat) (a b k t z : Int) : Nat → Nat → Int := up (up (up (up (up σ 8 (5 * r) a) 8 (5 * r + 1) b) 8 (5 * r + 2) k) 8 (5 * r + 3) t) 8 (5 * r + 4) z
theorem put5_o {σ : Nat → Nat → Int} {r : Nat} {a b k t z : Int} {c : Nat} (h : c ≠ 8) : put5 σ r a b k t z c = σ c := by simp [put5, up, h]
theorem put5_ne {σ : Nat → Nat → Int} {r r' : Nat} {a b k t z : Int} {c : Nat} (hc : c < 5) (h : r' ≠ r) : rwf (put5 σ r a b k t z) r' c = rwf σ r' c := by
  unfold rwf put5
  rw [up_k (by omega), up_k (by omega), up_k (by omega), up_k (by omega), up_k (by omega)]
theorem put5_at {σ : Nat → Nat → Int} {r : Nat} {a b k t z : Int} {c : Nat} (hc : c < 5) : rwf (put5 σ r a b k t z) r c = sel5 a b k t z c := by
  unfold rwf put5
  rcases (show c = 0 ∨ c = 1 ∨ c = 2 ∨ c = 3 ∨ c = 4 by omega) with rfl | rfl | rfl | rfl | rfl
  · rw [up_k (by omega), up_k (by omega), up_k (by omega), up_k (by omega)]; exact up_s _ _ _ _
  · rw [up_k (by omega), up_k (by omega), up_k (by omega)]; exact up_s _ _ _ _
  · rw [up_k (by omega), up_k (by omega)]; exact up_s _ _ _ _
  · rw [up_k (by omega)]; exact up_s _ _ _ _
  · exact up_s _ _ _ _
theorem rows_step {b : Bool} {σ τ : Nat → Nat → Int} {n i : Nat} {a1 a2 a3 a4 a5 b1 b2 b3 b4 b5 : Int} (h : rowsUp b σ τ n i)
    (hE : ∀ c, c < 5 → sel5 a1 a2 a3 a4 a5 c = (if b then tE (σ 1) (σ 2) (σ 3) (moM σ n) (σ 1 n) i c else rE (σ 1) (σ 2) (moM σ n) (σ 1 n) i c))
    (hO : ∀ c, c < 5 → sel5 b1 b2 b3 b4 b5 c = (if b then tO (σ 1) (σ 2) (σ 3) (moM σ n) (σ 1 n) i c else rO (σ 1) (σ 3) (moM σ n) (σ 1 n) i c)) :
    rowsUp b σ (put5 (put5 τ (2 * i) a1 a2 a3 a4 a5) (2 * i + 1) b1 b2 b3 b4 b5) n (i + 1) := by
  intro i' hi' c hc
  rcases Nat.lt_or_ge i' i with h1 | h1
  · rw [put5_ne hc (by omega), put5_ne hc (by omega), put5_ne hc (by omega), put5_ne hc (by omega)]
    exact h i' h1 c hc
  · obtain rfl : i' = i := by omega
    rw [put5_ne hc (by omega), put5_at hc, put5_at hc]
    exact ⟨hE c hc, hO c hc⟩
theorem FrR.step {σ τ : Nat → Nat → Int} {r : Nat} {a b k t z : Int} (h : FrR σ τ) : FrR σ (put5 τ r a b k t z) := ⟨fun c h0 h8 => by rw [put5_o h8]; exact h.1 c h0 h8, fun j h9 => by rw [put5_o (by decide)]; exact h.2 j h9⟩
/-- what a model's state holds -/
def AM (σ : Nat → Nat → Int) (n : Nat) : Prop := σ 0 0 = (n : Int) ∧ 2 ≤ n ∧ n ≤ 6 ∧ σ 1 0 = 0 ∧ (∀ i, i < n → σ 1 i < σ 1 (i + 1)) ∧ σ 1 n ≤ 20 ∧ (∀ i, i ≤ n → -20 ≤ σ 2 i ∧ σ 2 i ≤ σ 3 i ∧ σ 3 i ≤ 20) ∧ ∀ i, i ≤ n → 0 ≤ σ 4 i ∧ σ 4 i ≤ 20
theorem up09 {σ τ : Nat → Nat → Int} {z : Int} (h : FrR σ τ) : FrR σ (up τ 0 9 z) := ⟨fun c h0 h8 => by rw [up_c h0]; exact h.1 c h0 h8, fun j h9 => by rw [up_k h9]; exact h.2 j h9⟩
theorem rw09 {τ : Nat → Nat → Int} {z : Int} {r c : Nat} : rwf (up τ 0 9 z) r c = rwf τ r c := by
  unfold rwf
  rw [up_c (by decide)]
theorem ru09 {b : Bool} {σ τ : Nat → Nat → Int} {z : Int} {n i : Nat} (h : rowsUp b σ τ n i) : rowsUp b σ (up τ 0 9 z) n i := fun i' h1 c h2 => by
  rw [rw09, rw09]
  exact h i' h1 c h2
theorem rup5 {b : Bool} {σ τ : Nat → Nat → Int} {n r : Nat} {a1 a2 a3 a4 a5 : Int} (hr : 2 * n + 2 ≤ r) (h : rowsUp b σ τ n (n + 1)) : rowsUp b σ (put5 τ r a1 a2 a3 a4 a5) n (n + 1) := fun i' h1 c h2 => by
  rw [put5_ne h2 (by omega), put5_ne h2 (by omega)]
  exact h i' h1 c h2
theorem fr_endF {σ τ : Nat → Nat → Int} {n : Nat} {z : Int} (hF : FrR σ τ) (hU : rowsUp false σ τ n (n + 1)) : pV (fun u => rowsOK false σ u n) none (up (put5 (up τ 0 9 z) (2 * n + 2) 0 0 1 0 0) 0 9 (2 * (n : Int) + 2 + 1)) := by
  refine ⟨rfl, up09 (up09 hF).step, ru09 (rup5 (Nat.le_refl _) (ru09 hU)), fun c hc => ?_, (fun h => Bool.noConfusion h), ?_⟩
  · rw [rw09, put5_at hc]
    rcases (show c = 0 ∨ c = 1 ∨ c = 2 ∨ c = 3 ∨ c = 4 by omega) with rfl | rfl | rfl | rfl | rfl <;> rfl
  · rw [up_s]; simp; omega
theorem fr_endT {σ τ : Nat → Nat → Int} {n : Nat} {z z2 : Int} (hF : FrR σ τ) (hU : rowsUp true σ τ n (n + 1)) : pV (fun u => rowsOK true σ u n) none (up (put5 (up (put5 (up τ 0 9 z) (2 * n + 2) 0 0 1 0 0) 0 9 z2) (2 * n + 2 + 1) 0 0 0 1 0) 0 9 (2 * (n : Int) + 2 + 1 + 1)) := by
  refine ⟨rfl, up09 (up09 (up09 hF).step).step, ru09 (rup5 (by omega) (ru09 (rup5 (Nat.le_refl _) (ru09 hU)))), fun c hc => ?_, fun _ c hc => ?_, ?_⟩
  · rw [rw09, put5_ne hc (by omega), rw09, put5_at hc]
    rcases (show c = 0 ∨ c = 1 ∨ c = 2 ∨ c = 3 ∨ c = 4 by omega) with rfl | rfl | rfl | rfl | rfl <;> rfl
  · rw [rw09, put5_at hc]
    rcases (show c = 0 ∨ c = 1 ∨ c = 2 ∨ c = 3 ∨ c = 4 by omega) with rfl | rfl | rfl | rfl | rfl <;> rfl
  · rw [up_s]; simp; omega
set_option maxHeartbeats 4000000 in
set_option maxRecDepth 20000 in
theorem lp_X7_findRowsF {g : Gx} {K : Kx} {q : Nat → Nat} {σ : Nat → Nat → Int} {nn : Nat} (hn : σ 0 0 = (nn : Int)) (hn2 : 2 ≤ nn) (hn6 : nn ≤ 6) (hx : ∀ i, i ≤ nn → 0 ≤ σ 1 i ∧ σ 1 i ≤ 20) (hl : ∀ i, i ≤ nn → -20 ≤ σ 2 i ∧ σ 2 i ≤ σ 3 i ∧ σ 3 i ≤ 20) (hm : ∀ i, i ≤ nn → I32 (moM σ nn i)) (C : CX g K cX7_findRows RX7 15 1 31) (T : RT g K none (fun u => WM g q u) (pV (fun u => rowsOK false σ u nn))) : ∀ (d i : Nat), i ≤ nn + 1 → nn + 1 < i + d → ∀ τ : Nat → Nat → Int, FrR σ τ → rowsUp false σ τ nn i → GJ g K (WM g q τ) 14 [(0, .ref (q 0)), (1, .int (iZ 0)), (2, .long (lZ (σ 1 nn))), (4, .int (iZ (i : Int)))] [] := by
  intro d
  induction d with
  | zero => intro i h1 h2; omega
  | succ d ih =>
    intro i hi hd τ hF hU
    refine g_iload 3 C rfl dX7_findRows_14 ?_
    refine g_aload_n 0 C rfl dX7_findRows_16 rfl ?_
    refine gf_X7_7 C dX7_findRows_17 ?_
    rw [show τ 0 0 = (nn : Int) from ((hF.2 0 (by decide)).trans hn)]
    refine g_icmp_gt 226 C (by unfold I32; omega) (by unfold I32; omega) dX7_findRows_20 (by decide) (fun h1 => ?_) (fun h1 => ?_)
    · refine g_aload_n 0 C rfl dX7_findRows_226 rfl ?_
      refine g_iconst C dX7_findRows_227 ?_
      refine g_aload_n 0 C rfl dX7_findRows_228 rfl ?_
      refine gf_X7_7 C dX7_findRows_229 ?_
      rw [show τ 0 0 = (nn : Int) from ((hF.2 0 (by decide)).trans hn)]
      refine g_imul C dX7_findRows_232 ?_
      refine g_iconst C dX7_findRows_233 ?_
      refine g_iadd C dX7_findRows_234 ?_
      refine pf_X7_88 C dX7_findRows_235 ?_
      refine g_aload_n 0 C rfl dX7_findRows_238 rfl ?_
      refine g_aload_n 0 C rfl dX7_findRows_239 rfl ?_
      refine gf_X7_88 C dX7_findRows_240 ?_
      rw [show (up τ 0 9 ((2 * (nn : Int)) + 2)) 0 9 = (2 * (nn : Int)) + 2 from up_s _ _ _ _]
      refine g_lconst 0 C dX7_findRows_243 (by decide) ?_
      refine g_lconst 0 C dX7_findRows_244 (by decide) ?_
      refine g_lconst 1 C dX7_findRows_245 (by decide) ?_
      refine g_lconst 0 C dX7_findRows_246 (by decide) ?_
      refine g_lconst 0 C dX7_findRows_247 (by decide) ?_
      refine g_callV C (c_X7_setRow g (r := (2 * nn) + 2) (by omega)) gv_X7_82 yd_X7_setRow ⟨by decide, by decide⟩ 0 7 (WD_get (by decide)) rfl rfl (Nat.le_of_ble_eq_true rfl) dX7_findRows_248 ?_
      rintro _ rfl
      change GJ g K (WM g q (put5 (up τ 0 9 ((2 * (nn : Int)) + 2)) ((2 * nn) + 2) 0 0 1 0 0)) _ _ _
      refine g_aload_n 0 C rfl dX7_findRows_251 rfl ?_
      refine g_dup C dX7_findRows_252 rfl ?_
      refine gf_X7_88 C dX7_findRows_253 ?_
      rw [show (put5 (up τ 0 9 ((2 * (nn : Int)) + 2)) ((2 * nn) + 2) 0 0 1 0 0) 0 9 = (2 * (nn : Int)) + 2 from rfl]
      refine g_iconst C dX7_findRows_256 ?_
      refine g_iadd C dX7_findRows_257 ?_
      refine pf_X7_88 C dX7_findRows_258 ?_
      refine g_iload_n 1 C rfl dX7_findRows_261 rfl ?_
      refine g_if_eq 288 C (by unfold I32; omega) dX7_findRows_262 (by decide) (fun h2 => ?_) (fun h2 => ?_)
      · refine g_vret (u := (up (put5 (up τ 0 9 ((2 * (nn : Int)) + 2)) ((2 * nn) + 2) 0 0 1 0 0) 0 9 (((2 * (nn : Int)) + 2) + 1))) C T dX7_findRows_288 ?_
        have e9 : i = nn + 1 := by omega
        rw [e9] at hU
        exact fr_endF hF hU
      · exact absurd h2 (by decide)
    · refine g_lload_n 2 C rfl dX7_findRows_23 rfl ?_
      refine g_aload_n 0 C rfl dX7_findRows_24 rfl ?_
      refine gf_X7_13 C dX7_findRows_25 ?_
      refine g_iload 3 C rfl dX7_findRows_28 ?_
      refine g_iald C 1 i (by decide) (fun _ => rfl) (by omega) (by omega) (by decide) dX7_findRows_30 ?_
      rw [show τ 1 i = σ 1 i from congrFun (hF.1 1 (by decide) (by decide)) _]
      refine g_i2l C dX7_findRows_31 (by have h5 := hx i (by omega); have h6 := hl i (by omega); have h7 := hx nn (by omega); unfold I32; omega) ?_
      refine g_lsub C dX7_findRows_32 ?_
      refine g_lname (fun w3 ew3 => ?_)
      refine g_lstore (lv' := [(0, .ref (q 0)), (1, .int (iZ 0)), (2, .long (lZ (σ 1 nn))), (4, .int (iZ (i : Int))), (5, .long (lZ w3))]) [1, 2, 3, 4, 0] C dX7_findRows_33 (by decide) rfl ?_
      refine g_aload_n 0 C rfl dX7_findRows_35 rfl ?_
      refine gf_X7_13 C dX7_findRows_36 ?_
      refine g_iload 3 C rfl dX7_findRows_39 ?_
      refine g_iald C 1 i (by decide) (fun _ => rfl) (by omega) (by omega) (by decide) dX7_findRows_41 ?_
      rw [show τ 1 i = σ 1 i from congrFun (hF.1 1 (by decide) (by decide)) _]
      refine g_i2l C dX7_findRows_42 (by have h5 := hx i (by omega); have h6 := hl i (by omega); have h7 := hx nn (by omega); unfold I32; omega) ?_
      refine g_lname (fun w4 ew4 => ?_)
      refine g_lstore (lv' := [(0, .ref (q 0)), (1, .int (iZ 0)), (2, .long (lZ (σ 1 nn))), (4, .int (iZ (i : Int))), (5, .long (lZ w3)), (7, .long (lZ w4))]) [1, 2, 3, 4, 5, 0] C dX7_findRows_43 (by decide) rfl ?_
      refine g_aload_n 0 C rfl dX7_findRows_45 rfl ?_
      refine g_iload 3 C rfl dX7_findRows_46 ?_
      refine g_callI C (c_X7_momentAt g (σ := τ) (nn := nn) (i := i) ((hF.2 0 (by decide)).trans hn) hn2 hn6 (by omega)) gv_X7_78 yd_X7_momentAt ⟨by decide, by decide⟩ 0 7 (WD_get (by decide)) rfl rfl (Nat.le_of_ble_eq_true rfl) dX7_findRows_48 ?_
      rintro _ _ rfl
      rw [show mosum (τ 1) (τ 4) (τ 1 nn) i nn = moM σ nn i from by rw [hF.1 1 (by decide) (by decide), hF.1 4 (by decide) (by decide)]; rfl]
      refine g_i2l C dX7_findRows_51 (hm i (by omega)) ?_
      refine g_lname (fun w5 ew5 => ?_)
      refine g_lstore (lv' := [(0, .ref (q 0)), (1, .int (iZ 0)), (2, .long (lZ (σ 1 nn))), (4, .int (iZ (i : Int))), (5, .long (lZ w3)), (7, .long (lZ w4)), (9, .long (lZ w5))]) [1, 2, 3, 4, 5, 6, 0] C dX7_findRows_52 (by decide) rfl ?_
      refine g_iload_n 1 C rfl dX7_findRows_54 rfl ?_
      refine g_if_eq 164 C (by unfold I32; omega) dX7_findRows_55 (by decide) (fun h6 => ?_) (fun h6 => ?_)
      · refine g_aload_n 0 C rfl dX7_findRows_164 rfl ?_
        refine g_iconst C dX7_findRows_165 ?_
        refine g_iload 3 C rfl dX7_findRows_166 ?_
        refine g_imul C dX7_findRows_168 ?_
        refine g_lload 4 C rfl dX7_findRows_169 ?_
        refine g_lload 5 C rfl dX7_findRows_171 ?_
        refine g_lload 6 C rfl dX7_findRows_173 ?_
        refine g_lconst 0 C dX7_findRows_175 (by decide) ?_
        refine g_lload_n 2 C rfl dX7_findRows_176 rfl ?_
        refine g_aload_n 0 C rfl dX7_findRows_177 rfl ?_
        refine gf_X7_17 C dX7_findRows_178 ?_
        refine g_iload 3 C rfl dX7_findRows_181 ?_
        refine g_iald C 2 i (by decide) (fun _ => rfl) (by omega) (by omega) (by decide) dX7_findRows_183 ?_
        rw [show τ 2 i = σ 2 i from congrFun (hF.1 2 (by decide) (by decide)) _]
        refine g_i2l C dX7_findRows_184 (by have h5 := hx i (by omega); have h6 := hl i (by omega); have h7 := hx nn (by omega); unfold I32; omega) ?_
        refine g_lmul C dX7_findRows_185 ?_
        refine g_callV C (c_X7_setRow g (r := 2 * i) (by omega)) gv_X7_82 yd_X7_setRow ⟨by decide, by decide⟩ 0 7 (WD_get (by decide)) rfl rfl (Nat.le_of_ble_eq_true rfl) dX7_findRows_186 ?_
        rintro _ rfl
        change GJ g K (WM g q (put5 τ (2 * i) w3 w4 w5 0 ((σ 1 nn) * (σ 2 i)))) _ _ _
        refine g_aload_n 0 C rfl dX7_findRows_189 rfl ?_
        refine g_iconst C dX7_findRows_190 ?_
        refine g_iload 3 C rfl dX7_findRows_191 ?_
        refine g_imul C dX7_findRows_193 ?_
        refine g_iconst C dX7_findRows_194 ?_
        refine g_iadd C dX7_findRows_195 ?_
        refine g_lload 4 C rfl dX7_findRows_196 ?_
        refine g_lneg C dX7_findRows_198 ?_
        refine g_lload 5 C rfl dX7_findRows_199 ?_
        refine g_lneg C dX7_findRows_201 ?_
        refine g_lload 6 C rfl dX7_findRows_202 ?_
        refine g_lneg C dX7_findRows_204 ?_
        refine g_lconst 0 C dX7_findRows_205 (by decide) ?_
        refine g_lload_n 2 C rfl dX7_findRows_206 rfl ?_
        refine g_lneg C dX7_findRows_207 ?_
        refine g_aload_n 0 C rfl dX7_findRows_208 rfl ?_
        refine gf_X7_20 C dX7_findRows_209 ?_
        refine g_iload 3 C rfl dX7_findRows_212 ?_
        refine g_iald C 3 i (by decide) (fun _ => rfl) (by omega) (by omega) (by decide) dX7_findRows_214 ?_
        rw [show (put5 τ (2 * i) w3 w4 w5 0 ((σ 1 nn) * (σ 2 i))) 3 i = σ 3 i from congrFun (hF.1 3 (by decide) (by decide)) _]
        refine g_i2l C dX7_findRows_215 (by have h5 := hx i (by omega); have h6 := hl i (by omega); have h7 := hx nn (by omega); unfold I32; omega) ?_
        refine g_lmul C dX7_findRows_216 ?_
        refine g_callV C (c_X7_setRow g (r := (2 * i) + 1) (by omega)) gv_X7_82 yd_X7_setRow ⟨by decide, by decide⟩ 0 7 (WD_get (by decide)) rfl rfl (Nat.le_of_ble_eq_true rfl) dX7_findRows_217 ?_
        rintro _ rfl
        change GJ g K (WM g q (put5 (put5 τ (2 * i) w3 w4 w5 0 ((σ 1 nn) * (σ 2 i))) ((2 * i) + 1) (-w3) (-w4) (-w5) 0 ((-(σ 1 nn)) * (σ 3 i)))) _ _ _
        refine g_iinc (lv' := [(0, .ref (q 0)), (1, .int (iZ 0)), (2, .long (lZ (σ 1 nn))), (4, .int (iZ ((i : Int) + 1))), (5, .long (lZ w3)), (7, .long (lZ w4)), (9, .long (lZ w5))]) 3 [1, 2, 3, 0, 4, 5, 6] C rfl dX7_findRows_220 (by decide) rfl ?_
        refine g_goto 14 C dX7_findRows_223 (by decide) ?_
        refine g_lv [0, 1, 2, 3] rfl ?_
        subst ew5
        subst ew4
        subst ew3
        refine ih (i + 1) (by omega) (by omega) _ hF.step.step (rows_step hU (fun c hc => ?_) (fun c hc => ?_))
        · rcases (show c = 0 ∨ c = 1 ∨ c = 2 ∨ c = 3 ∨ c = 4 by omega) with rfl | rfl | rfl | rfl | rfl <;> rfl
        · rcases (show c = 0 ∨ c = 1 ∨ c = 2 ∨ c = 3 ∨ c = 4 by omega) with rfl | rfl | rfl | rfl | rfl <;> rfl
      · exact absurd h6 (by decide)
set_option maxHeartbeats 4000000 in
set_option maxRecDepth 20000 in
theorem c_X7_findRowsF (g : Gx) {q : Nat → Nat} {σ : Nat → Nat → Int} {nn : Nat} (hn : σ 0 0 = (nn : Int)) (hn2 : 2 ≤ nn) (hn6 : nn ≤ 6) (hx : ∀ i, i ≤ nn → 0 ≤ σ 1 i ∧ σ 1 i ≤ 20) (hl : ∀ i, i ≤ nn → -20 ≤ σ 2 i ∧ σ 2 i ≤ σ 3 i ∧ σ 3 i ≤ 20) (hm : ∀ i, i ≤ nn → I32 (moM σ nn i)) : MC g yX7_findRows cX7_findRows 15 (none) 1 31 (WM g q σ) [.ref (q 0), .int (iZ 0)] (fun u => WM g q u) (pV (fun u => rowsOK false σ u nn)) := by
  refine MC_intro (own := RX7) rfl (by decide) (Nat.le_of_ble_eq_true rfl) (fun K C T => ?_)
  show GJ g K (WM g q σ) 0 [(0, .ref (q 0)), (1, .int (iZ 0))] []
  refine g_aload_n 0 C rfl dX7_findRows_0 rfl ?_
  refine gf_X7_13 C dX7_findRows_1 ?_
  refine g_aload_n 0 C rfl dX7_findRows_4 rfl ?_
  refine gf_X7_7 C dX7_findRows_5 ?_
  rw [show σ 0 0 = (nn : Int) from hn]
  refine g_iald C 1 nn (by decide) (fun _ => rfl) (by omega) (by omega) (by decide) dX7_findRows_8 ?_
  refine g_i2l C dX7_findRows_9 (by have h7 := hx nn (by omega); unfold I32; omega) ?_
  refine g_lname (fun w1 ew1 => ?_)
  refine g_lstore_n (lv' := [(0, .ref (q 0)), (1, .int (iZ 0)), (2, .long (lZ w1))]) [1, 2, 0] C dX7_findRows_10 rfl (by decide) rfl ?_
  refine g_iconst C dX7_findRows_11 ?_
  refine g_istore (lv' := [(0, .ref (q 0)), (1, .int (iZ 0)), (2, .long (lZ w1)), (4, .int (iZ 0))]) [1, 2, 3, 0] C dX7_findRows_12 (by decide) rfl ?_
  (subst ew1; exact lp_X7_findRowsF hn hn2 hn6 hx hl hm C T (nn + 2) 0 (by omega) (by omega) σ ⟨fun _ _ _ => rfl, fun _ _ => rfl⟩ (fun i' h9 => absurd h9 (by omega)))
set_option maxHeartbeats 4000000 in
set_option maxRecDepth 20000 in
theorem lp_X7_findRowsT {g : Gx} {K : Kx} {q : Nat → Nat} {σ : Nat → Nat → Int} {nn : Nat} (hn : σ 0 0 = (nn : Int)) (hn2 : 2 ≤ nn) (hn6 : nn ≤ 6) (hx : ∀ i, i ≤ nn → 0 ≤ σ 1 i ∧ σ 1 i ≤ 20) (hl : ∀ i, i ≤ nn → -20 ≤ σ 2 i ∧ σ 2 i ≤ σ 3 i ∧ σ 3 i ≤ 20) (hm : ∀ i, i ≤ nn → I32 (moM σ nn i)) (C : CX g K cX7_findRows RX7 15 1 31) (T : RT g K none (fun u => WM g q u) (pV (fun u => rowsOK true σ u nn))) : ∀ (d i : Nat), i ≤ nn + 1 → nn + 1 < i + d → ∀ τ : Nat → Nat → Int, FrR σ τ → rowsUp true σ τ nn i → GJ g K (WM g q τ) 14 [(0, .ref (q 0)), (1, .int (iZ 1)), (2, .long (lZ (σ 1 nn))), (4, .int (iZ (i : Int)))] [] := by
  intro d
  induction d with
  | zero => intro i h1 h2; omega
  | succ d ih =>
    intro i hi hd τ hF hU
    refine g_iload 3 C rfl dX7_findRows_14 ?_
    refine g_aload_n 0 C rfl dX7_findRows_16 rfl ?_
    refine gf_X7_7 C dX7_findRows_17 ?_
    rw [show τ 0 0 = (nn : Int) from ((hF.2 0 (by decide)).trans hn)]
    refine g_icmp_gt 226 C (by unfold I32; omega) (by unfold I32; omega) dX7_findRows_20 (by decide) (fun h1 => ?_) (fun h1 => ?_)
    · refine g_aload_n 0 C rfl dX7_findRows_226 rfl ?_
      refine g_iconst C dX7_findRows_227 ?_
      refine g_aload_n 0 C rfl dX7_findRows_228 rfl ?_
      refine gf_X7_7 C dX7_findRows_229 ?_
      rw [show τ 0 0 = (nn : Int) from ((hF.2 0 (by decide)).trans hn)]
      refine g_imul C dX7_findRows_232 ?_
      refine g_iconst C dX7_findRows_233 ?_
      refine g_iadd C dX7_findRows_234 ?_
      refine pf_X7_88 C dX7_findRows_235 ?_
      refine g_aload_n 0 C rfl dX7_findRows_238 rfl ?_
      refine g_aload_n 0 C rfl dX7_findRows_239 rfl ?_
      refine gf_X7_88 C dX7_findRows_240 ?_
      rw [show (up τ 0 9 ((2 * (nn : Int)) + 2)) 0 9 = (2 * (nn : Int)) + 2 from up_s _ _ _ _]
      refine g_lconst 0 C dX7_findRows_243 (by decide) ?_
      refine g_lconst 0 C dX7_findRows_244 (by decide) ?_
      refine g_lconst 1 C dX7_findRows_245 (by decide) ?_
      refine g_lconst 0 C dX7_findRows_246 (by decide) ?_
      refine g_lconst 0 C dX7_findRows_247 (by decide) ?_
      refine g_callV C (c_X7_setRow g (r := (2 * nn) + 2) (by omega)) gv_X7_82 yd_X7_setRow ⟨by decide, by decide⟩ 0 7 (WD_get (by decide)) rfl rfl (Nat.le_of_ble_eq_true rfl) dX7_findRows_248 ?_
      rintro _ rfl
      change GJ g K (WM g q (put5 (up τ 0 9 ((2 * (nn : Int)) + 2)) ((2 * nn) + 2) 0 0 1 0 0)) _ _ _
      refine g_aload_n 0 C rfl dX7_findRows_251 rfl ?_
      refine g_dup C dX7_findRows_252 rfl ?_
      refine gf_X7_88 C dX7_findRows_253 ?_
      rw [show (put5 (up τ 0 9 ((2 * (nn : Int)) + 2)) ((2 * nn) + 2) 0 0 1 0 0) 0 9 = (2 * (nn : Int)) + 2 from rfl]
      refine g_iconst C dX7_findRows_256 ?_
      refine g_iadd C dX7_findRows_257 ?_
      refine pf_X7_88 C dX7_findRows_258 ?_
      refine g_iload_n 1 C rfl dX7_findRows_261 rfl ?_
      refine g_if_eq 288 C (by unfold I32; omega) dX7_findRows_262 (by decide) (fun h2 => ?_) (fun h2 => ?_)
      · exact absurd h2 (by decide)
      refine g_aload_n 0 C rfl dX7_findRows_265 rfl ?_
      refine g_aload_n 0 C rfl dX7_findRows_266 rfl ?_
      refine gf_X7_88 C dX7_findRows_267 ?_
      rw [show (up (put5 (up τ 0 9 ((2 * (nn : Int)) + 2)) ((2 * nn) + 2) 0 0 1 0 0) 0 9 (((2 * (nn : Int)) + 2) + 1)) 0 9 = ((2 * (nn : Int)) + 2) + 1 from up_s _ _ _ _]
      refine g_lconst 0 C dX7_findRows_270 (by decide) ?_
      refine g_lconst 0 C dX7_findRows_271 (by decide) ?_
      refine g_lconst 0 C dX7_findRows_272 (by decide) ?_
      refine g_lconst 1 C dX7_findRows_273 (by decide) ?_
      refine g_lconst 0 C dX7_findRows_274 (by decide) ?_
      refine g_callV C (c_X7_setRow g (r := ((2 * nn) + 2) + 1) (by omega)) gv_X7_82 yd_X7_setRow ⟨by decide, by decide⟩ 0 7 (WD_get (by decide)) rfl rfl (Nat.le_of_ble_eq_true rfl) dX7_findRows_275 ?_
      rintro _ rfl
      change GJ g K (WM g q (put5 (up (put5 (up τ 0 9 ((2 * (nn : Int)) + 2)) ((2 * nn) + 2) 0 0 1 0 0) 0 9 (((2 * (nn : Int)) + 2) + 1)) (((2 * nn) + 2) + 1) 0 0 0 1 0)) _ _ _
      refine g_aload_n 0 C rfl dX7_findRows_278 rfl ?_
      refine g_dup C dX7_findRows_279 rfl ?_
      refine gf_X7_88 C dX7_findRows_280 ?_
      rw [show (put5 (up (put5 (up τ 0 9 ((2 * (nn : Int)) + 2)) ((2 * nn) + 2) 0 0 1 0 0) 0 9 (((2 * (nn : Int)) + 2) + 1)) (((2 * nn) + 2) + 1) 0 0 0 1 0) 0 9 = ((2 * (nn : Int)) + 2) + 1 from rfl]
      refine g_iconst C dX7_findRows_283 ?_
      refine g_iadd C dX7_findRows_284 ?_
      refine pf_X7_88 C dX7_findRows_285 ?_
      refine g_vret (u := (up (put5 (up (put5 (up τ 0 9 ((2 * (nn : Int)) + 2)) ((2 * nn) + 2) 0 0 1 0 0) 0 9 (((2 * (nn : Int)) + 2) + 1)) (((2 * nn) + 2) + 1) 0 0 0 1 0) 0 9 ((((2 * (nn : Int)) + 2) + 1) + 1))) C T dX7_findRows_288 ?_
      have e9 : i = nn + 1 := by omega
      rw [e9] at hU
      exact fr_endT hF hU
    · refine g_lload_n 2 C rfl dX7_findRows_23 rfl ?_
      refine g_aload_n 0 C rfl dX7_findRows_24 rfl ?_
      refine gf_X7_13 C dX7_findRows_25 ?_
      refine g_iload 3 C rfl dX7_findRows_28 ?_
      refine g_iald C 1 i (by decide) (fun _ => rfl) (by omega) (by omega) (by decide) dX7_findRows_30 ?_
      rw [show τ 1 i = σ 1 i from congrFun (hF.1 1 (by decide) (by decide)) _]
      refine g_i2l C dX7_findRows_31 (by have h5 := hx i (by omega); have h6 := hl i (by omega); have h7 := hx nn (by omega); unfold I32; omega) ?_
      refine g_lsub C dX7_findRows_32 ?_
      refine g_lname (fun w3 ew3 => ?_)
      refine g_lstore (lv' := [(0, .ref (q 0)), (1, .int (iZ 1)), (2, .long (lZ (σ 1 nn))), (4, .int (iZ (i : Int))), (5, .long (lZ w3))]) [1, 2, 3, 4, 0] C dX7_findRows_33 (by decide) rfl ?_
      refine g_aload_n 0 C rfl dX7_findRows_35 rfl ?_
      refine gf_X7_13 C dX7_findRows_36 ?_
      refine g_iload 3 C rfl dX7_findRows_39 ?_
      refine g_iald C 1 i (by decide) (fun _ => rfl) (by omega) (by omega) (by decide) dX7_findRows_41 ?_
      rw [show τ 1 i = σ 1 i from congrFun (hF.1 1 (by decide) (by decide)) _]
      refine g_i2l C dX7_findRows_42 (by have h5 := hx i (by omega); have h6 := hl i (by omega); have h7 := hx nn (by omega); unfold I32; omega) ?_
      refine g_lname (fun w4 ew4 => ?_)
      refine g_lstore (lv' := [(0, .ref (q 0)), (1, .int (iZ 1)), (2, .long (lZ (σ 1 nn))), (4, .int (iZ (i : Int))), (5, .long (lZ w3)), (7, .long (lZ w4))]) [1, 2, 3, 4, 5, 0] C dX7_findRows_43 (by decide) rfl ?_
      refine g_aload_n 0 C rfl dX7_findRows_45 rfl ?_
      refine g_iload 3 C rfl dX7_findRows_46 ?_
      refine g_callI C (c_X7_momentAt g (σ := τ) (nn := nn) (i := i) ((hF.2 0 (by decide)).trans hn) hn2 hn6 (by omega)) gv_X7_78 yd_X7_momentAt ⟨by decide, by decide⟩ 0 7 (WD_get (by decide)) rfl rfl (Nat.le_of_ble_eq_true rfl) dX7_findRows_48 ?_
      rintro _ _ rfl
      rw [show mosum (τ 1) (τ 4) (τ 1 nn) i nn = moM σ nn i from by rw [hF.1 1 (by decide) (by decide), hF.1 4 (by decide) (by decide)]; rfl]
      refine g_i2l C dX7_findRows_51 (hm i (by omega)) ?_
      refine g_lname (fun w5 ew5 => ?_)
      refine g_lstore (lv' := [(0, .ref (q 0)), (1, .int (iZ 1)), (2, .long (lZ (σ 1 nn))), (4, .int (iZ (i : Int))), (5, .long (lZ w3)), (7, .long (lZ w4)), (9, .long (lZ w5))]) [1, 2, 3, 4, 5, 6, 0] C dX7_findRows_52 (by decide) rfl ?_
      refine g_iload_n 1 C rfl dX7_findRows_54 rfl ?_
      refine g_if_eq 164 C (by unfold I32; omega) dX7_findRows_55 (by decide) (fun h6 => ?_) (fun h6 => ?_)
      · exact absurd h6 (by decide)
      refine g_lload_n 2 C rfl dX7_findRows_58 rfl ?_
      refine g_aload_n 0 C rfl dX7_findRows_59 rfl ?_
      refine gf_X7_20 C dX7_findRows_60 ?_
      refine g_iload 3 C rfl dX7_findRows_63 ?_
      refine g_iald C 3 i (by decide) (fun _ => rfl) (by omega) (by omega) (by decide) dX7_findRows_65 ?_
      rw [show τ 3 i = σ 3 i from congrFun (hF.1 3 (by decide) (by decide)) _]
      refine g_aload_n 0 C rfl dX7_findRows_66 rfl ?_
      refine gf_X7_17 C dX7_findRows_67 ?_
      refine g_iload 3 C rfl dX7_findRows_70 ?_
      refine g_iald C 2 i (by decide) (fun _ => rfl) (by omega) (by omega) (by decide) dX7_findRows_72 ?_
      rw [show τ 2 i = σ 2 i from congrFun (hF.1 2 (by decide) (by decide)) _]
      refine g_isub C dX7_findRows_73 ?_
      refine g_i2l C dX7_findRows_74 (by have h5 := hx i (by omega); have h6 := hl i (by omega); have h7 := hx nn (by omega); unfold I32; omega) ?_
      refine g_lmul C dX7_findRows_75 ?_
      refine g_lname (fun w7 ew7 => ?_)
      refine g_lstore (lv' := [(0, .ref (q 0)), (1, .int (iZ 1)), (2, .long (lZ (σ 1 nn))), (4, .int (iZ (i : Int))), (5, .long (lZ w3)), (7, .long (lZ w4)), (9, .long (lZ w5)), (11, .long (lZ w7))]) [1, 2, 3, 4, 5, 6, 7, 0] C dX7_findRows_76 (by decide) rfl ?_
      refine g_lload_n 2 C rfl dX7_findRows_78 rfl ?_
      refine g_aload_n 0 C rfl dX7_findRows_79 rfl ?_
      refine gf_X7_20 C dX7_findRows_80 ?_
      refine g_iload 3 C rfl dX7_findRows_83 ?_
      refine g_iald C 3 i (by decide) (fun _ => rfl) (by omega) (by omega) (by decide) dX7_findRows_85 ?_
      rw [show τ 3 i = σ 3 i from congrFun (hF.1 3 (by decide) (by decide)) _]
      refine g_aload_n 0 C rfl dX7_findRows_86 rfl ?_
      refine gf_X7_17 C dX7_findRows_87 ?_
      refine g_iload 3 C rfl dX7_findRows_90 ?_
      refine g_iald C 2 i (by decide) (fun _ => rfl) (by omega) (by omega) (by decide) dX7_findRows_92 ?_
      rw [show τ 2 i = σ 2 i from congrFun (hF.1 2 (by decide) (by decide)) _]
      refine g_iadd C dX7_findRows_93 ?_
      refine g_i2l C dX7_findRows_94 (by have h5 := hx i (by omega); have h6 := hl i (by omega); have h7 := hx nn (by omega); unfold I32; omega) ?_
      refine g_lmul C dX7_findRows_95 ?_
      refine g_lname (fun w8 ew8 => ?_)
      refine g_lstore (lv' := [(0, .ref (q 0)), (1, .int (iZ 1)), (2, .long (lZ (σ 1 nn))), (4, .int (iZ (i : Int))), (5, .long (lZ w3)), (7, .long (lZ w4)), (9, .long (lZ w5)), (11, .long (lZ w7)), (13, .long (lZ w8))]) [1, 2, 3, 4, 5, 6, 7, 8, 0] C dX7_findRows_96 (by decide) rfl ?_
      refine g_aload_n 0 C rfl dX7_findRows_98 rfl ?_
      refine g_iconst C dX7_findRows_99 ?_
      refine g_iload 3 C rfl dX7_findRows_100 ?_
      refine g_imul C dX7_findRows_102 ?_
      refine g_ldc2 2 C wk_X7_55 (by decide) dX7_findRows_103 ?_
      refine g_lload 4 C rfl dX7_findRows_106 ?_
      refine g_lmul C dX7_findRows_108 ?_
      refine g_ldc2 2 C wk_X7_55 (by decide) dX7_findRows_109 ?_
      refine g_lload 5 C rfl dX7_findRows_112 ?_
      refine g_lmul C dX7_findRows_114 ?_
      refine g_ldc2 2 C wk_X7_55 (by decide) dX7_findRows_115 ?_
      refine g_lload 6 C rfl dX7_findRows_118 ?_
      refine g_lmul C dX7_findRows_120 ?_
      refine g_lload 7 C rfl dX7_findRows_121 ?_
      refine g_lload 8 C rfl dX7_findRows_123 ?_
      refine g_callV C (c_X7_setRow g (r := 2 * i) (by omega)) gv_X7_82 yd_X7_setRow ⟨by decide, by decide⟩ 0 7 (WD_get (by decide)) rfl rfl (Nat.le_of_ble_eq_true rfl) dX7_findRows_125 ?_
      rintro _ rfl
      change GJ g K (WM g q (put5 τ (2 * i) (2 * w3) (2 * w4) (2 * w5) w7 w8)) _ _ _
      refine g_aload_n 0 C rfl dX7_findRows_128 rfl ?_
      refine g_iconst C dX7_findRows_129 ?_
      refine g_iload 3 C rfl dX7_findRows_130 ?_
      refine g_imul C dX7_findRows_132 ?_
      refine g_iconst C dX7_findRows_133 ?_
      refine g_iadd C dX7_findRows_134 ?_
      refine g_ldc2 (-2) C wk_X7_86 (by decide) dX7_findRows_135 ?_
      refine g_lload 4 C rfl dX7_findRows_138 ?_
      refine g_lmul C dX7_findRows_140 ?_
      refine g_ldc2 (-2) C wk_X7_86 (by decide) dX7_findRows_141 ?_
      refine g_lload 5 C rfl dX7_findRows_144 ?_
      refine g_lmul C dX7_findRows_146 ?_
      refine g_ldc2 (-2) C wk_X7_86 (by decide) dX7_findRows_147 ?_
      refine g_lload 6 C rfl dX7_findRows_150 ?_
      refine g_lmul C dX7_findRows_152 ?_
      refine g_lload 7 C rfl dX7_findRows_153 ?_
      refine g_lload 8 C rfl dX7_findRows_155 ?_
      refine g_lneg C dX7_findRows_157 ?_
      refine g_callV C (c_X7_setRow g (r := (2 * i) + 1) (by omega)) gv_X7_82 yd_X7_setRow ⟨by decide, by decide⟩ 0 7 (WD_get (by decide)) rfl rfl (Nat.le_of_ble_eq_true rfl) dX7_findRows_158 ?_
      rintro _ rfl
      change GJ g K (WM g q (put5 (put5 τ (2 * i) (2 * w3) (2 * w4) (2 * w5) w7 w8) ((2 * i) + 1) ((-2) * w3) ((-2) * w4) ((-2) * w5) w7 (-w8))) _ _ _
      refine g_goto 220 C dX7_findRows_161 (by decide) ?_
      refine g_iinc (lv' := [(0, .ref (q 0)), (1, .int (iZ 1)), (2, .long (lZ (σ 1 nn))), (4, .int (iZ ((i : Int) + 1))), (5, .long (lZ w3)), (7, .long (lZ w4)), (9, .long (lZ w5)), (11, .long (lZ w7)), (13, .long (lZ w8))]) 3 [1, 2, 3, 0, 4, 5, 6, 7, 8] C rfl dX7_findRows_220 (by decide) rfl ?_
      refine g_goto 14 C dX7_findRows_223 (by decide) ?_
      refine g_lv [0, 1, 2, 3] rfl ?_
      subst ew8
      subst ew7
      subst ew5
      subst ew4
      subst ew3
      refine ih (i + 1) (by omega) (by omega) _ hF.step.step (rows_step hU (fun c hc => ?_) (fun c hc => ?_))
      · rcases (show c = 0 ∨ c = 1 ∨ c = 2 ∨ c = 3 ∨ c = 4 by omega) with rfl | rfl | rfl | rfl | rfl <;> rfl
      · rcases (show c = 0 ∨ c = 1 ∨ c = 2 ∨ c = 3 ∨ c = 4 by omega) with rfl | rfl | rfl | rfl | rfl <;> rfl
set_option maxHeartbeats 4000000 in
set_option maxRecDepth 20000 in
theorem c_X7_findRowsT (g : Gx) {q : Nat → Nat} {σ : Nat → Nat → Int} {nn : Nat} (hn : σ 0 0 = (nn : Int)) (hn2 : 2 ≤ nn) (hn6 : nn ≤ 6) (hx : ∀ i, i ≤ nn → 0 ≤ σ 1 i ∧ σ 1 i ≤ 20) (hl : ∀ i, i ≤ nn → -20 ≤ σ 2 i ∧ σ 2 i ≤ σ 3 i ∧ σ 3 i ≤ 20) (hm : ∀ i, i ≤ nn → I32 (moM σ nn i)) : MC g yX7_findRows cX7_findRows 15 (none) 1 31 (WM g q σ) [.ref (q 0), .int (iZ 1)] (fun u => WM g q u) (pV (fun u => rowsOK true σ u nn)) := by
  refine MC_intro (own := RX7) rfl (by decide) (Nat.le_of_ble_eq_true rfl) (fun K C T => ?_)
  show GJ g K (WM g q σ) 0 [(0, .ref (q 0)), (1, .int (iZ 1))] []
  refine g_aload_n 0 C rfl dX7_findRows_0 rfl ?_
  refine gf_X7_13 C dX7_findRows_1 ?_
  refine g_aload_n 0 C rfl dX7_findRows_4 rfl ?_
  refine gf_X7_7 C dX7_findRows_5 ?_
  rw [show σ 0 0 = (nn : Int) from hn]
  refine g_iald C 1 nn (by decide) (fun _ => rfl) (by omega) (by omega) (by decide) dX7_findRows_8 ?_
  refine g_i2l C dX7_findRows_9 (by have h7 := hx nn (by omega); unfold I32; omega) ?_
  refine g_lname (fun w1 ew1 => ?_)
  refine g_lstore_n (lv' := [(0, .ref (q 0)), (1, .int (iZ 1)), (2, .long (lZ w1))]) [1, 2, 0] C dX7_findRows_10 rfl (by decide) rfl ?_
  refine g_iconst C dX7_findRows_11 ?_
  refine g_istore (lv' := [(0, .ref (q 0)), (1, .int (iZ 1)), (2, .long (lZ w1)), (4, .int (iZ 0))]) [1, 2, 3, 0] C dX7_findRows_12 (by decide) rfl ?_
  (subst ew1; exact lp_X7_findRowsT hn hn2 hn6 hx hl hm C T (nn + 2) 0 (by omega) (by omega) σ ⟨fun _ _ _ => rfl, fun _ _ => rfl⟩ (fun i' h9 => absurd h9 (by omega)))
end
section
theorem t1 (a b c d : Int) : (a - b) * (c + d) = a * c + a * d - b * c - b * d := by grind
theorem t2 (a b c d : Int) (h : 0 ≤ (a - b) * (c - d)) : a * d + b * c ≤ a * c + b * d := by grind
theorem t3 (x p q r : Int) (h1 : 0 ≤ (p - q) * x) (h2 : 0 ≤ (q - r) * x) : r * x ≤ p * x := by grind
theorem t4 (x y z : Int) (hx : 0 < x) (h : x * y ≤ x * z) : y ≤ z := Int.le_of_mul_le_mul_left h hx
theorem t5 (S Sb T Tb l : Int) (x : Int) (h : (l * Sb - S) * Tb ≤ T * x) : l * Sb * Tb ≤ S * Tb + T * x := by grind
end
