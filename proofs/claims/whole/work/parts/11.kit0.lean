theorem wcl_L_7 : Cond.classLink RL 7 RX6 ∈ BIG := List.mem_of_getElem? (i := 0) (by decide +kernel)
theorem wit_X6 : Cond.instantiable RX6 8 ∈ BIG := List.mem_of_getElem? (i := 1) (by decide +kernel)
theorem win_X6 : Cond.initialized RX6 ∈ BIG := List.mem_of_getElem? (i := 2) (by decide +kernel)
theorem wcl_L_10 : Cond.classLink RL 10 RX7 ∈ BIG := List.mem_of_getElem? (i := 3) (by decide +kernel)
theorem wit_X7 : Cond.instantiable RX7 22 ∈ BIG := List.mem_of_getElem? (i := 4) (by decide +kernel)
theorem win_X7 : Cond.initialized RX7 ∈ BIG := List.mem_of_getElem? (i := 5) (by decide +kernel)
theorem wm_L_9 : Cond.methodLink RL 9 yX6_init ∈ BIG := List.mem_of_getElem? (i := 6) (by decide +kernel)
theorem wi_X6_init : Cond.instanceMethod yX6_init ∈ BIG := List.mem_of_getElem? (i := 7) (by decide +kernel)
theorem wc_X6_init : Cond.code yX6_init cX6_init 2 none ∈ BIG := List.mem_of_getElem? (i := 8) (by decide +kernel)
theorem wm_X6_3 : Cond.methodLink RX6 3 objectInit ∈ BIG := List.mem_of_getElem? (i := 9) (by decide +kernel)
theorem wi_objectInit : Cond.instanceMethod objectInit ∈ BIG := List.mem_of_getElem? (i := 10) (by decide +kernel)
theorem wc_objectInit : Cond.code objectInit ⟨#[0xb1]⟩ 1 none ∈ BIG := List.mem_of_getElem? (i := 11) (by decide +kernel)
theorem wcl_X6_9 : Cond.classLink RX6 9 RX0 ∈ BIG := List.mem_of_getElem? (i := 12) (by decide +kernel)
theorem wit_X0 : Cond.instantiable RX0 6 ∈ BIG := List.mem_of_getElem? (i := 13) (by decide +kernel)
theorem win_X0 : Cond.initialized RX0 ∈ BIG := List.mem_of_getElem? (i := 14) (by decide +kernel)
theorem wf_X6_12 : Cond.fieldLink RX6 12 "StandingArch" "arch" "LStandingArch$Arch;" ∈ BIG := List.mem_of_getElem? (i := 15) (by decide +kernel)
theorem wcl_X6_16 : Cond.classLink RX6 16 RX5 ∈ BIG := List.mem_of_getElem? (i := 16) (by decide +kernel)
theorem wit_X5 : Cond.instantiable RX5 5 ∈ BIG := List.mem_of_getElem? (i := 17) (by decide +kernel)
theorem win_X5 : Cond.initialized RX5 ∈ BIG := List.mem_of_getElem? (i := 18) (by decide +kernel)
theorem wf_X6_21 : Cond.fieldLink RX6 21 "StandingArch" "triples" "LStandingArch$Triples;" ∈ BIG := List.mem_of_getElem? (i := 19) (by decide +kernel)
theorem wcl_X6_25 : Cond.classLink RX6 25 RX3 ∈ BIG := List.mem_of_getElem? (i := 20) (by decide +kernel)
theorem wit_X3 : Cond.instantiable RX3 7 ∈ BIG := List.mem_of_getElem? (i := 21) (by decide +kernel)
theorem win_X3 : Cond.initialized RX3 ∈ BIG := List.mem_of_getElem? (i := 22) (by decide +kernel)
theorem wf_X6_28 : Cond.fieldLink RX6 28 "StandingArch" "leastLine" "LStandingArch$LeastLine;" ∈ BIG := List.mem_of_getElem? (i := 23) (by decide +kernel)
theorem wcl_X6_32 : Cond.classLink RX6 32 RX1 ∈ BIG := List.mem_of_getElem? (i := 24) (by decide +kernel)
theorem wit_X1 : Cond.instantiable RX1 3 ∈ BIG := List.mem_of_getElem? (i := 25) (by decide +kernel)
theorem win_X1 : Cond.initialized RX1 ∈ BIG := List.mem_of_getElem? (i := 26) (by decide +kernel)
theorem wf_X6_35 : Cond.fieldLink RX6 35 "StandingArch" "bars" "LStandingArch$Bars;" ∈ BIG := List.mem_of_getElem? (i := 27) (by decide +kernel)
theorem wcl_X6_39 : Cond.classLink RX6 39 RX4 ∈ BIG := List.mem_of_getElem? (i := 28) (by decide +kernel)
theorem wf_X6_41 : Cond.fieldLink RX6 41 "StandingArch" "sheets" "[LStandingArch$Sheet;" ∈ BIG := List.mem_of_getElem? (i := 29) (by decide +kernel)
theorem war_int : Cond.arrayClass .int ∈ BIG := List.mem_of_getElem? (i := 30) (by decide +kernel)
theorem wf_X6_45 : Cond.fieldLink RX6 45 "StandingArch" "trial" "[I" ∈ BIG := List.mem_of_getElem? (i := 31) (by decide +kernel)
theorem wcl_X6_49 : Cond.classLink RX6 49 RX2 ∈ BIG := List.mem_of_getElem? (i := 32) (by decide +kernel)
theorem wit_X2 : Cond.instantiable RX2 2 ∈ BIG := List.mem_of_getElem? (i := 33) (by decide +kernel)
theorem win_X2 : Cond.initialized RX2 ∈ BIG := List.mem_of_getElem? (i := 34) (by decide +kernel)
theorem wf_X6_52 : Cond.fieldLink RX6 52 "StandingArch" "answer" "LStandingArch$Fraction;" ∈ BIG := List.mem_of_getElem? (i := 35) (by decide +kernel)
theorem wf_X6_56 : Cond.fieldLink RX6 56 "StandingArch" "worst" "LStandingArch$Fraction;" ∈ BIG := List.mem_of_getElem? (i := 36) (by decide +kernel)
theorem wit_X4 : Cond.instantiable RX4 4 ∈ BIG := List.mem_of_getElem? (i := 37) (by decide +kernel)
theorem win_X4 : Cond.initialized RX4 ∈ BIG := List.mem_of_getElem? (i := 38) (by decide +kernel)
theorem wi_X0_init : Cond.instanceMethod yX0_init ∈ BIG := List.mem_of_getElem? (i := 39) (by decide +kernel)
theorem wc_X0_init : Cond.code yX0_init cX0_init 1 none ∈ BIG := List.mem_of_getElem? (i := 40) (by decide +kernel)
theorem wm_X0_3 : Cond.methodLink RX0 3 objectInit ∈ BIG := List.mem_of_getElem? (i := 41) (by decide +kernel)
theorem wf_X0_9 : Cond.fieldLink RX0 9 "StandingArch$Arch" "place" "[I" ∈ BIG := List.mem_of_getElem? (i := 42) (by decide +kernel)
theorem wf_X0_15 : Cond.fieldLink RX0 15 "StandingArch$Arch" "low" "[I" ∈ BIG := List.mem_of_getElem? (i := 43) (by decide +kernel)
theorem wf_X0_18 : Cond.fieldLink RX0 18 "StandingArch$Arch" "high" "[I" ∈ BIG := List.mem_of_getElem? (i := 44) (by decide +kernel)
theorem wf_X0_21 : Cond.fieldLink RX0 21 "StandingArch$Arch" "weight" "[I" ∈ BIG := List.mem_of_getElem? (i := 45) (by decide +kernel)
theorem wf_X0_24 : Cond.fieldLink RX0 24 "StandingArch$Arch" "moment" "[I" ∈ BIG := List.mem_of_getElem? (i := 46) (by decide +kernel)
theorem wm_X6_18 : Cond.methodLink RX6 18 yX5_init ∈ BIG := List.mem_of_getElem? (i := 47) (by decide +kernel)
theorem wi_X5_init : Cond.instanceMethod yX5_init ∈ BIG := List.mem_of_getElem? (i := 48) (by decide +kernel)
theorem wc_X5_init : Cond.code yX5_init cX5_init 2 none ∈ BIG := List.mem_of_getElem? (i := 49) (by decide +kernel)
theorem wm_X5_1 : Cond.methodLink RX5 1 objectInit ∈ BIG := List.mem_of_getElem? (i := 50) (by decide +kernel)
theorem war_long : Cond.arrayClass .long ∈ BIG := List.mem_of_getElem? (i := 51) (by decide +kernel)
theorem wf_X5_9 : Cond.fieldLink RX5 9 "StandingArch$Triples" "middle" "[J" ∈ BIG := List.mem_of_getElem? (i := 52) (by decide +kernel)
theorem wf_X5_13 : Cond.fieldLink RX5 13 "StandingArch$Triples" "room" "[J" ∈ BIG := List.mem_of_getElem? (i := 53) (by decide +kernel)
theorem wf_X5_16 : Cond.fieldLink RX5 16 "StandingArch$Triples" "bend" "[J" ∈ BIG := List.mem_of_getElem? (i := 54) (by decide +kernel)
theorem wf_X5_19 : Cond.fieldLink RX5 19 "StandingArch$Triples" "arch" "LStandingArch$Arch;" ∈ BIG := List.mem_of_getElem? (i := 55) (by decide +kernel)
theorem wm_X6_27 : Cond.methodLink RX6 27 yX3_init ∈ BIG := List.mem_of_getElem? (i := 56) (by decide +kernel)
theorem wi_X3_init : Cond.instanceMethod yX3_init ∈ BIG := List.mem_of_getElem? (i := 57) (by decide +kernel)
theorem wc_X3_init : Cond.code yX3_init cX3_init 2 none ∈ BIG := List.mem_of_getElem? (i := 58) (by decide +kernel)
theorem wm_X3_1 : Cond.methodLink RX3 1 objectInit ∈ BIG := List.mem_of_getElem? (i := 59) (by decide +kernel)
theorem wf_X3_7 : Cond.fieldLink RX3 7 "StandingArch$LeastLine" "pushBelow" "J" ∈ BIG := List.mem_of_getElem? (i := 60) (by decide +kernel)
theorem wf_X3_13 : Cond.fieldLink RX3 13 "StandingArch$LeastLine" "startBelow" "J" ∈ BIG := List.mem_of_getElem? (i := 61) (by decide +kernel)
theorem wf_X3_16 : Cond.fieldLink RX3 16 "StandingArch$LeastLine" "slopeBelow" "J" ∈ BIG := List.mem_of_getElem? (i := 62) (by decide +kernel)
theorem wf_X3_19 : Cond.fieldLink RX3 19 "StandingArch$LeastLine" "arch" "LStandingArch$Arch;" ∈ BIG := List.mem_of_getElem? (i := 63) (by decide +kernel)
theorem wm_X6_34 : Cond.methodLink RX6 34 yX1_init ∈ BIG := List.mem_of_getElem? (i := 64) (by decide +kernel)
theorem wi_X1_init : Cond.instanceMethod yX1_init ∈ BIG := List.mem_of_getElem? (i := 65) (by decide +kernel)
theorem wc_X1_init : Cond.code yX1_init cX1_init 2 none ∈ BIG := List.mem_of_getElem? (i := 66) (by decide +kernel)
theorem wm_X1_3 : Cond.methodLink RX1 3 objectInit ∈ BIG := List.mem_of_getElem? (i := 67) (by decide +kernel)
theorem wf_X1_9 : Cond.fieldLink RX1 9 "StandingArch$Bars" "chosen" "[I" ∈ BIG := List.mem_of_getElem? (i := 68) (by decide +kernel)
theorem wf_X1_15 : Cond.fieldLink RX1 15 "StandingArch$Bars" "arch" "LStandingArch$Arch;" ∈ BIG := List.mem_of_getElem? (i := 69) (by decide +kernel)
theorem wi_X2_init : Cond.instanceMethod yX2_init ∈ BIG := List.mem_of_getElem? (i := 70) (by decide +kernel)
theorem wc_X2_init : Cond.code yX2_init cX2_init 1 none ∈ BIG := List.mem_of_getElem? (i := 71) (by decide +kernel)
theorem wm_X2_1 : Cond.methodLink RX2 1 objectInit ∈ BIG := List.mem_of_getElem? (i := 72) (by decide +kernel)
theorem wf_X2_7 : Cond.fieldLink RX2 7 "StandingArch$Fraction" "above" "J" ∈ BIG := List.mem_of_getElem? (i := 73) (by decide +kernel)
theorem wf_X2_13 : Cond.fieldLink RX2 13 "StandingArch$Fraction" "below" "J" ∈ BIG := List.mem_of_getElem? (i := 74) (by decide +kernel)
theorem wm_X6_59 : Cond.methodLink RX6 59 yX0_renew ∈ BIG := List.mem_of_getElem? (i := 75) (by decide +kernel)
theorem wi_X0_renew : Cond.instanceMethod yX0_renew ∈ BIG := List.mem_of_getElem? (i := 76) (by decide +kernel)
theorem wse_X0_renew : Cond.selects RX0 yX0_renew yX0_renew ∈ BIG := List.mem_of_getElem? (i := 77) (by decide +kernel)
theorem wc_X0_renew : Cond.code yX0_renew cX0_renew 3 none ∈ BIG := List.mem_of_getElem? (i := 78) (by decide +kernel)
theorem wf_X0_27 : Cond.fieldLink RX0 27 "StandingArch$Arch" "last" "I" ∈ BIG := List.mem_of_getElem? (i := 79) (by decide +kernel)
theorem wi_X4_init : Cond.instanceMethod yX4_init ∈ BIG := List.mem_of_getElem? (i := 80) (by decide +kernel)
theorem wc_X4_init : Cond.code yX4_init cX4_init 1 none ∈ BIG := List.mem_of_getElem? (i := 81) (by decide +kernel)
theorem wm_X4_3 : Cond.methodLink RX4 3 objectInit ∈ BIG := List.mem_of_getElem? (i := 82) (by decide +kernel)
theorem wf_X4_9 : Cond.fieldLink RX4 9 "StandingArch$Sheet" "items" "[I" ∈ BIG := List.mem_of_getElem? (i := 83) (by decide +kernel)
theorem wm_L_12 : Cond.methodLink RL 12 yX7_init ∈ BIG := List.mem_of_getElem? (i := 84) (by decide +kernel)
theorem wi_X7_init : Cond.instanceMethod yX7_init ∈ BIG := List.mem_of_getElem? (i := 85) (by decide +kernel)
theorem wc_X7_init : Cond.code yX7_init cX7_init 2 none ∈ BIG := List.mem_of_getElem? (i := 86) (by decide +kernel)
theorem wm_X7_1 : Cond.methodLink RX7 1 objectInit ∈ BIG := List.mem_of_getElem? (i := 87) (by decide +kernel)
theorem wf_X7_7 : Cond.fieldLink RX7 7 "StandingArchModel" "n" "I" ∈ BIG := List.mem_of_getElem? (i := 88) (by decide +kernel)
theorem wf_X7_13 : Cond.fieldLink RX7 13 "StandingArchModel" "xs" "[I" ∈ BIG := List.mem_of_getElem? (i := 89) (by decide +kernel)
theorem wf_X7_17 : Cond.fieldLink RX7 17 "StandingArchModel" "lows" "[I" ∈ BIG := List.mem_of_getElem? (i := 90) (by decide +kernel)
theorem wf_X7_20 : Cond.fieldLink RX7 20 "StandingArchModel" "highs" "[I" ∈ BIG := List.mem_of_getElem? (i := 91) (by decide +kernel)
theorem wf_X7_23 : Cond.fieldLink RX7 23 "StandingArchModel" "loads" "[I" ∈ BIG := List.mem_of_getElem? (i := 92) (by decide +kernel)
theorem wf_X7_26 : Cond.fieldLink RX7 26 "StandingArchModel" "lanes" "[I" ∈ BIG := List.mem_of_getElem? (i := 93) (by decide +kernel)
theorem wf_X7_29 : Cond.fieldLink RX7 29 "StandingArchModel" "sizes" "[I" ∈ BIG := List.mem_of_getElem? (i := 94) (by decide +kernel)
theorem wf_X7_32 : Cond.fieldLink RX7 32 "StandingArchModel" "items" "[I" ∈ BIG := List.mem_of_getElem? (i := 95) (by decide +kernel)
theorem wf_X7_35 : Cond.fieldLink RX7 35 "StandingArchModel" "row" "[J" ∈ BIG := List.mem_of_getElem? (i := 96) (by decide +kernel)
theorem wf_X7_39 : Cond.fieldLink RX7 39 "StandingArchModel" "spot" "[J" ∈ BIG := List.mem_of_getElem? (i := 97) (by decide +kernel)
theorem wf_X7_42 : Cond.fieldLink RX7 42 "StandingArchModel" "best" "[J" ∈ BIG := List.mem_of_getElem? (i := 98) (by decide +kernel)
theorem wf_X7_45 : Cond.fieldLink RX7 45 "StandingArchModel" "bar" "[I" ∈ BIG := List.mem_of_getElem? (i := 99) (by decide +kernel)
theorem wf_X7_48 : Cond.fieldLink RX7 48 "StandingArchModel" "keptLoads" "[I" ∈ BIG := List.mem_of_getElem? (i := 100) (by decide +kernel)
theorem wm_X7_51 : Cond.methodLink RX7 51 yX7_begin ∈ BIG := List.mem_of_getElem? (i := 101) (by decide +kernel)
theorem wi_X7_begin : Cond.instanceMethod yX7_begin ∈ BIG := List.mem_of_getElem? (i := 102) (by decide +kernel)
theorem wse_X7_begin : Cond.selects RX7 yX7_begin yX7_begin ∈ BIG := List.mem_of_getElem? (i := 103) (by decide +kernel)
theorem wc_X7_begin : Cond.code yX7_begin cX7_begin 3 none ∈ BIG := List.mem_of_getElem? (i := 104) (by decide +kernel)
theorem wm_L_13 : Cond.methodLink RL 13 yX6_joints ∈ BIG := List.mem_of_getElem? (i := 105) (by decide +kernel)
theorem wi_X6_joints : Cond.instanceMethod yX6_joints ∈ BIG := List.mem_of_getElem? (i := 106) (by decide +kernel)
theorem wse_X6_joints : Cond.selects RX6 yX6_joints yX6_joints ∈ BIG := List.mem_of_getElem? (i := 107) (by decide +kernel)
theorem wc_X6_joints : Cond.code yX6_joints cX6_joints 2 (some .int) ∈ BIG := List.mem_of_getElem? (i := 108) (by decide +kernel)
theorem wm_L_17 : Cond.methodLink RL 17 yX7_joints ∈ BIG := List.mem_of_getElem? (i := 109) (by decide +kernel)
theorem wi_X7_joints : Cond.instanceMethod yX7_joints ∈ BIG := List.mem_of_getElem? (i := 110) (by decide +kernel)
theorem wse_X7_joints : Cond.selects RX7 yX7_joints yX7_joints ∈ BIG := List.mem_of_getElem? (i := 111) (by decide +kernel)
theorem wc_X7_joints : Cond.code yX7_joints cX7_joints 2 (some .int) ∈ BIG := List.mem_of_getElem? (i := 112) (by decide +kernel)
theorem wk_X7_55 : Cond.constantLong RX7 55 (2) ∈ BIG := List.mem_of_getElem? (i := 113) (by decide +kernel)
theorem wk_X7_57 : Cond.constantLong RX7 57 (6) ∈ BIG := List.mem_of_getElem? (i := 114) (by decide +kernel)
theorem wm_X7_59 : Cond.methodLink RX7 59 yX7_in ∈ BIG := List.mem_of_getElem? (i := 115) (by decide +kernel)
theorem wst_X7_in : Cond.static yX7_in ∈ BIG := List.mem_of_getElem? (i := 116) (by decide +kernel)
theorem wc_X7_in : Cond.code yX7_in cX7_in 6 (some .boolean) ∈ BIG := List.mem_of_getElem? (i := 117) (by decide +kernel)
theorem wm_L_18 : Cond.methodLink RL 18 yX6_at ∈ BIG := List.mem_of_getElem? (i := 118) (by decide +kernel)
theorem wi_X6_at : Cond.instanceMethod yX6_at ∈ BIG := List.mem_of_getElem? (i := 119) (by decide +kernel)
theorem wse_X6_at : Cond.selects RX6 yX6_at yX6_at ∈ BIG := List.mem_of_getElem? (i := 120) (by decide +kernel)
theorem wc_X6_at : Cond.code yX6_at cX6_at 4 (some .int) ∈ BIG := List.mem_of_getElem? (i := 121) (by decide +kernel)
theorem wf_X6_64 : Cond.fieldLink RX6 64 "StandingArch$Arch" "last" "I" ∈ BIG := List.mem_of_getElem? (i := 122) (by decide +kernel)
theorem wf_X6_68 : Cond.fieldLink RX6 68 "StandingArch$Arch" "place" "[I" ∈ BIG := List.mem_of_getElem? (i := 123) (by decide +kernel)
theorem wm_L_22 : Cond.methodLink RL 22 yX7_at ∈ BIG := List.mem_of_getElem? (i := 124) (by decide +kernel)
theorem wi_X7_at : Cond.instanceMethod yX7_at ∈ BIG := List.mem_of_getElem? (i := 125) (by decide +kernel)
theorem wse_X7_at : Cond.selects RX7 yX7_at yX7_at ∈ BIG := List.mem_of_getElem? (i := 126) (by decide +kernel)
theorem wc_X7_at : Cond.code yX7_at cX7_at 4 (some .int) ∈ BIG := List.mem_of_getElem? (i := 127) (by decide +kernel)
theorem wk_X7_63 : Cond.constantLong RX7 63 (20) ∈ BIG := List.mem_of_getElem? (i := 128) (by decide +kernel)
theorem wm_L_23 : Cond.methodLink RL 23 yX6_edges ∈ BIG := List.mem_of_getElem? (i := 129) (by decide +kernel)
theorem wi_X6_edges : Cond.instanceMethod yX6_edges ∈ BIG := List.mem_of_getElem? (i := 130) (by decide +kernel)
theorem wse_X6_edges : Cond.selects RX6 yX6_edges yX6_edges ∈ BIG := List.mem_of_getElem? (i := 131) (by decide +kernel)
theorem wc_X6_edges : Cond.code yX6_edges cX6_edges 4 (some .int) ∈ BIG := List.mem_of_getElem? (i := 132) (by decide +kernel)
theorem wf_X6_79 : Cond.fieldLink RX6 79 "StandingArch$Arch" "low" "[I" ∈ BIG := List.mem_of_getElem? (i := 133) (by decide +kernel)
theorem wf_X6_82 : Cond.fieldLink RX6 82 "StandingArch$Arch" "high" "[I" ∈ BIG := List.mem_of_getElem? (i := 134) (by decide +kernel)
theorem wm_X6_71 : Cond.methodLink RX6 71 yX0_hasJoint ∈ BIG := List.mem_of_getElem? (i := 135) (by decide +kernel)
theorem wi_X0_hasJoint : Cond.instanceMethod yX0_hasJoint ∈ BIG := List.mem_of_getElem? (i := 136) (by decide +kernel)
theorem wse_X0_hasJoint : Cond.selects RX0 yX0_hasJoint yX0_hasJoint ∈ BIG := List.mem_of_getElem? (i := 137) (by decide +kernel)
theorem wc_X0_hasJoint : Cond.code yX0_hasJoint cX0_hasJoint 2 (some .boolean) ∈ BIG := List.mem_of_getElem? (i := 138) (by decide +kernel)
theorem wm_X6_75 : Cond.methodLink RX6 75 yX6_areEdges ∈ BIG := List.mem_of_getElem? (i := 139) (by decide +kernel)
theorem wst_X6_areEdges : Cond.static yX6_areEdges ∈ BIG := List.mem_of_getElem? (i := 140) (by decide +kernel)
theorem wc_X6_areEdges : Cond.code yX6_areEdges cX6_areEdges 2 (some .boolean) ∈ BIG := List.mem_of_getElem? (i := 141) (by decide +kernel)
theorem wm_X6_196 : Cond.methodLink RX6 196 yX6_isHeight ∈ BIG := List.mem_of_getElem? (i := 142) (by decide +kernel)
theorem wst_X6_isHeight : Cond.static yX6_isHeight ∈ BIG := List.mem_of_getElem? (i := 143) (by decide +kernel)
theorem wc_X6_isHeight : Cond.code yX6_isHeight cX6_isHeight 1 (some .boolean) ∈ BIG := List.mem_of_getElem? (i := 144) (by decide +kernel)
theorem wm_L_27 : Cond.methodLink RL 27 yX7_edges ∈ BIG := List.mem_of_getElem? (i := 145) (by decide +kernel)
theorem wi_X7_edges : Cond.instanceMethod yX7_edges ∈ BIG := List.mem_of_getElem? (i := 146) (by decide +kernel)
theorem wse_X7_edges : Cond.selects RX7 yX7_edges yX7_edges ∈ BIG := List.mem_of_getElem? (i := 147) (by decide +kernel)
theorem wc_X7_edges : Cond.code yX7_edges cX7_edges 4 (some .int) ∈ BIG := List.mem_of_getElem? (i := 148) (by decide +kernel)
theorem wk_X7_65 : Cond.constantLong RX7 65 (-20) ∈ BIG := List.mem_of_getElem? (i := 149) (by decide +kernel)
theorem wm_L_28 : Cond.methodLink RL 28 yX6_load ∈ BIG := List.mem_of_getElem? (i := 150) (by decide +kernel)
theorem wi_X6_load : Cond.instanceMethod yX6_load ∈ BIG := List.mem_of_getElem? (i := 151) (by decide +kernel)
theorem wse_X6_load : Cond.selects RX6 yX6_load yX6_load ∈ BIG := List.mem_of_getElem? (i := 152) (by decide +kernel)
theorem wc_X6_load : Cond.code yX6_load cX6_load 4 (some .int) ∈ BIG := List.mem_of_getElem? (i := 153) (by decide +kernel)
theorem wf_X6_91 : Cond.fieldLink RX6 91 "StandingArch$Arch" "weight" "[I" ∈ BIG := List.mem_of_getElem? (i := 154) (by decide +kernel)
theorem wm_X6_85 : Cond.methodLink RX6 85 yX0_hasInnerJoint ∈ BIG := List.mem_of_getElem? (i := 155) (by decide +kernel)
theorem wi_X0_hasInnerJoint : Cond.instanceMethod yX0_hasInnerJoint ∈ BIG := List.mem_of_getElem? (i := 156) (by decide +kernel)
theorem wse_X0_hasInnerJoint : Cond.selects RX0 yX0_hasInnerJoint yX0_hasInnerJoint ∈ BIG := List.mem_of_getElem? (i := 157) (by decide +kernel)
theorem wc_X0_hasInnerJoint : Cond.code yX0_hasInnerJoint cX0_hasInnerJoint 2 (some .boolean) ∈ BIG := List.mem_of_getElem? (i := 158) (by decide +kernel)
theorem wm_X6_88 : Cond.methodLink RX6 88 yX6_isLoad ∈ BIG := List.mem_of_getElem? (i := 159) (by decide +kernel)
theorem wst_X6_isLoad : Cond.static yX6_isLoad ∈ BIG := List.mem_of_getElem? (i := 160) (by decide +kernel)
theorem wc_X6_isLoad : Cond.code yX6_isLoad cX6_isLoad 1 (some .boolean) ∈ BIG := List.mem_of_getElem? (i := 161) (by decide +kernel)
theorem wm_L_31 : Cond.methodLink RL 31 yX7_load ∈ BIG := List.mem_of_getElem? (i := 162) (by decide +kernel)
theorem wi_X7_load : Cond.instanceMethod yX7_load ∈ BIG := List.mem_of_getElem? (i := 163) (by decide +kernel)
theorem wse_X7_load : Cond.selects RX7 yX7_load yX7_load ∈ BIG := List.mem_of_getElem? (i := 164) (by decide +kernel)
theorem wc_X7_load : Cond.code yX7_load cX7_load 4 (some .int) ∈ BIG := List.mem_of_getElem? (i := 165) (by decide +kernel)
theorem wk_X7_67 : Cond.constantLong RX7 67 (10) ∈ BIG := List.mem_of_getElem? (i := 166) (by decide +kernel)
theorem wm_L_32 : Cond.methodLink RL 32 yX6_sheet ∈ BIG := List.mem_of_getElem? (i := 167) (by decide +kernel)
theorem wi_X6_sheet : Cond.instanceMethod yX6_sheet ∈ BIG := List.mem_of_getElem? (i := 168) (by decide +kernel)
theorem wse_X6_sheet : Cond.selects RX6 yX6_sheet yX6_sheet ∈ BIG := List.mem_of_getElem? (i := 169) (by decide +kernel)
theorem wc_X6_sheet : Cond.code yX6_sheet cX6_sheet 4 (some .int) ∈ BIG := List.mem_of_getElem? (i := 170) (by decide +kernel)
theorem wm_X6_94 : Cond.methodLink RX6 94 yX6_isSheet ∈ BIG := List.mem_of_getElem? (i := 171) (by decide +kernel)
theorem wst_X6_isSheet : Cond.static yX6_isSheet ∈ BIG := List.mem_of_getElem? (i := 172) (by decide +kernel)
theorem wc_X6_isSheet : Cond.code yX6_isSheet cX6_isSheet 1 (some .boolean) ∈ BIG := List.mem_of_getElem? (i := 173) (by decide +kernel)
theorem wm_X6_97 : Cond.methodLink RX6 97 yX6_isLane ∈ BIG := List.mem_of_getElem? (i := 174) (by decide +kernel)
theorem wst_X6_isLane : Cond.static yX6_isLane ∈ BIG := List.mem_of_getElem? (i := 175) (by decide +kernel)
theorem wc_X6_isLane : Cond.code yX6_isLane cX6_isLane 1 (some .boolean) ∈ BIG := List.mem_of_getElem? (i := 176) (by decide +kernel)
theorem wm_X6_100 : Cond.methodLink RX6 100 yX4_hold ∈ BIG := List.mem_of_getElem? (i := 177) (by decide +kernel)
theorem wi_X4_hold : Cond.instanceMethod yX4_hold ∈ BIG := List.mem_of_getElem? (i := 178) (by decide +kernel)
theorem wse_X4_hold : Cond.selects RX4 yX4_hold yX4_hold ∈ BIG := List.mem_of_getElem? (i := 179) (by decide +kernel)
theorem wc_X4_hold : Cond.code yX4_hold cX4_hold 3 none ∈ BIG := List.mem_of_getElem? (i := 180) (by decide +kernel)
theorem wf_X4_15 : Cond.fieldLink RX4 15 "StandingArch$Sheet" "held" "Z" ∈ BIG := List.mem_of_getElem? (i := 181) (by decide +kernel)
theorem wf_X4_19 : Cond.fieldLink RX4 19 "StandingArch$Sheet" "lane" "I" ∈ BIG := List.mem_of_getElem? (i := 182) (by decide +kernel)
theorem wf_X4_23 : Cond.fieldLink RX4 23 "StandingArch$Sheet" "size" "I" ∈ BIG := List.mem_of_getElem? (i := 183) (by decide +kernel)
theorem wm_X4_26 : Cond.methodLink RX4 26 yJ7_fill_53178 ∈ BIG := List.mem_of_getElem? (i := 184) (by decide +kernel)
theorem wst_J7_fill_53178 : Cond.static yJ7_fill_53178 ∈ BIG := List.mem_of_getElem? (i := 185) (by decide +kernel)
theorem win_J7 : Cond.initialized RJ7 ∈ BIG := List.mem_of_getElem? (i := 186) (by decide +kernel)
theorem wc_J7_fill_53178 : Cond.code yJ7_fill_53178 cJ7_fill_53178 4 none ∈ BIG := List.mem_of_getElem? (i := 187) (by decide +kernel)
theorem wm_L_35 : Cond.methodLink RL 35 yX7_sheet ∈ BIG := List.mem_of_getElem? (i := 188) (by decide +kernel)
theorem wi_X7_sheet : Cond.instanceMethod yX7_sheet ∈ BIG := List.mem_of_getElem? (i := 189) (by decide +kernel)
theorem wse_X7_sheet : Cond.selects RX7 yX7_sheet yX7_sheet ∈ BIG := List.mem_of_getElem? (i := 190) (by decide +kernel)
theorem wc_X7_sheet : Cond.code yX7_sheet cX7_sheet 5 (some .int) ∈ BIG := List.mem_of_getElem? (i := 191) (by decide +kernel)
theorem wm_X7_71 : Cond.methodLink RX7 71 yX7_isSheet ∈ BIG := List.mem_of_getElem? (i := 192) (by decide +kernel)
theorem wst_X7_isSheet : Cond.static yX7_isSheet ∈ BIG := List.mem_of_getElem? (i := 193) (by decide +kernel)
theorem wc_X7_isSheet : Cond.code yX7_isSheet cX7_isSheet 2 (some .boolean) ∈ BIG := List.mem_of_getElem? (i := 194) (by decide +kernel)
theorem wk_X7_69 : Cond.constantLong RX7 69 (3) ∈ BIG := List.mem_of_getElem? (i := 195) (by decide +kernel)
theorem wm_L_36 : Cond.methodLink RL 36 yX6_drop ∈ BIG := List.mem_of_getElem? (i := 196) (by decide +kernel)
theorem wi_X6_drop : Cond.instanceMethod yX6_drop ∈ BIG := List.mem_of_getElem? (i := 197) (by decide +kernel)
theorem wse_X6_drop : Cond.selects RX6 yX6_drop yX6_drop ∈ BIG := List.mem_of_getElem? (i := 198) (by decide +kernel)
theorem wc_X6_drop : Cond.code yX6_drop cX6_drop 2 (some .int) ∈ BIG := List.mem_of_getElem? (i := 199) (by decide +kernel)
theorem wf_X6_104 : Cond.fieldLink RX6 104 "StandingArch$Sheet" "held" "Z" ∈ BIG := List.mem_of_getElem? (i := 200) (by decide +kernel)
theorem wf_X6_108 : Cond.fieldLink RX6 108 "StandingArch$Sheet" "size" "I" ∈ BIG := List.mem_of_getElem? (i := 201) (by decide +kernel)
theorem wm_L_39 : Cond.methodLink RL 39 yX7_drop ∈ BIG := List.mem_of_getElem? (i := 202) (by decide +kernel)
theorem wi_X7_drop : Cond.instanceMethod yX7_drop ∈ BIG := List.mem_of_getElem? (i := 203) (by decide +kernel)
theorem wse_X7_drop : Cond.selects RX7 yX7_drop yX7_drop ∈ BIG := List.mem_of_getElem? (i := 204) (by decide +kernel)
theorem wc_X7_drop : Cond.code yX7_drop cX7_drop 2 (some .int) ∈ BIG := List.mem_of_getElem? (i := 205) (by decide +kernel)
theorem wm_L_40 : Cond.methodLink RL 40 yX6_item ∈ BIG := List.mem_of_getElem? (i := 206) (by decide +kernel)
theorem wi_X6_item : Cond.instanceMethod yX6_item ∈ BIG := List.mem_of_getElem? (i := 207) (by decide +kernel)
theorem wse_X6_item : Cond.selects RX6 yX6_item yX6_item ∈ BIG := List.mem_of_getElem? (i := 208) (by decide +kernel)
theorem wc_X6_item : Cond.code yX6_item cX6_item 7 (some .int) ∈ BIG := List.mem_of_getElem? (i := 209) (by decide +kernel)
theorem wf_X6_115 : Cond.fieldLink RX6 115 "StandingArch$Sheet" "items" "[I" ∈ BIG := List.mem_of_getElem? (i := 210) (by decide +kernel)
theorem wm_X6_111 : Cond.methodLink RX6 111 yX6_refusalOfRow ∈ BIG := List.mem_of_getElem? (i := 211) (by decide +kernel)
theorem wi_X6_refusalOfRow : Cond.instanceMethod yX6_refusalOfRow ∈ BIG := List.mem_of_getElem? (i := 212) (by decide +kernel)
theorem wse_X6_refusalOfRow : Cond.selects RX6 yX6_refusalOfRow yX6_refusalOfRow ∈ BIG := List.mem_of_getElem? (i := 213) (by decide +kernel)
theorem wc_X6_refusalOfRow : Cond.code yX6_refusalOfRow cX6_refusalOfRow 3 (some .int) ∈ BIG := List.mem_of_getElem? (i := 214) (by decide +kernel)
theorem wf_X6_217 : Cond.fieldLink RX6 217 "StandingArch$Sheet" "lane" "I" ∈ BIG := List.mem_of_getElem? (i := 215) (by decide +kernel)
theorem wm_L_44 : Cond.methodLink RL 44 yX7_item ∈ BIG := List.mem_of_getElem? (i := 216) (by decide +kernel)
theorem wi_X7_item : Cond.instanceMethod yX7_item ∈ BIG := List.mem_of_getElem? (i := 217) (by decide +kernel)
theorem wse_X7_item : Cond.selects RX7 yX7_item yX7_item ∈ BIG := List.mem_of_getElem? (i := 218) (by decide +kernel)
theorem wc_X7_item : Cond.code yX7_item cX7_item 5 (some .int) ∈ BIG := List.mem_of_getElem? (i := 219) (by decide +kernel)
theorem wm_L_45 : Cond.methodLink RL 45 yX6_read ∈ BIG := List.mem_of_getElem? (i := 220) (by decide +kernel)
theorem wi_X6_read : Cond.instanceMethod yX6_read ∈ BIG := List.mem_of_getElem? (i := 221) (by decide +kernel)
theorem wse_X6_read : Cond.selects RX6 yX6_read yX6_read ∈ BIG := List.mem_of_getElem? (i := 222) (by decide +kernel)
theorem wc_X6_read : Cond.code yX6_read cX6_read 6 (some .int) ∈ BIG := List.mem_of_getElem? (i := 223) (by decide +kernel)
theorem wm_X6_118 : Cond.methodLink RX6 118 yX0_mayTake ∈ BIG := List.mem_of_getElem? (i := 224) (by decide +kernel)
theorem wi_X0_mayTake : Cond.instanceMethod yX0_mayTake ∈ BIG := List.mem_of_getElem? (i := 225) (by decide +kernel)
theorem wse_X0_mayTake : Cond.selects RX0 yX0_mayTake yX0_mayTake ∈ BIG := List.mem_of_getElem? (i := 226) (by decide +kernel)
theorem wc_X0_mayTake : Cond.code yX0_mayTake cX0_mayTake 7 (some .boolean) ∈ BIG := List.mem_of_getElem? (i := 227) (by decide +kernel)
theorem wm_X6_122 : Cond.methodLink RX6 122 yX0_take ∈ BIG := List.mem_of_getElem? (i := 228) (by decide +kernel)
theorem wi_X0_take : Cond.instanceMethod yX0_take ∈ BIG := List.mem_of_getElem? (i := 229) (by decide +kernel)
theorem wse_X0_take : Cond.selects RX0 yX0_take yX0_take ∈ BIG := List.mem_of_getElem? (i := 230) (by decide +kernel)
theorem wc_X0_take : Cond.code yX0_take cX0_take 5 none ∈ BIG := List.mem_of_getElem? (i := 231) (by decide +kernel)
theorem wm_X0_39 : Cond.methodLink RX0 39 yX0_hasInnerJoint ∈ BIG := List.mem_of_getElem? (i := 232) (by decide +kernel)
theorem wm_L_48 : Cond.methodLink RL 48 yX7_read ∈ BIG := List.mem_of_getElem? (i := 233) (by decide +kernel)
theorem wi_X7_read : Cond.instanceMethod yX7_read ∈ BIG := List.mem_of_getElem? (i := 234) (by decide +kernel)
theorem wse_X7_read : Cond.selects RX7 yX7_read yX7_read ∈ BIG := List.mem_of_getElem? (i := 235) (by decide +kernel)
theorem wc_X7_read : Cond.code yX7_read cX7_read 9 (some .int) ∈ BIG := List.mem_of_getElem? (i := 236) (by decide +kernel)
theorem wm_L_49 : Cond.methodLink RL 49 yX6_told ∈ BIG := List.mem_of_getElem? (i := 237) (by decide +kernel)
theorem wi_X6_told : Cond.instanceMethod yX6_told ∈ BIG := List.mem_of_getElem? (i := 238) (by decide +kernel)
theorem wse_X6_told : Cond.selects RX6 yX6_told yX6_told ∈ BIG := List.mem_of_getElem? (i := 239) (by decide +kernel)
theorem wc_X6_told : Cond.code yX6_told cX6_told 3 (some .int) ∈ BIG := List.mem_of_getElem? (i := 240) (by decide +kernel)
theorem wk_X6_126 : Cond.constant RX6 126 (-100001) ∈ BIG := List.mem_of_getElem? (i := 241) (by decide +kernel)
theorem wf_X6_131 : Cond.fieldLink RX6 131 "StandingArch$Arch" "moment" "[I" ∈ BIG := List.mem_of_getElem? (i := 242) (by decide +kernel)
theorem wm_X6_127 : Cond.methodLink RX6 127 yX0_weigh ∈ BIG := List.mem_of_getElem? (i := 243) (by decide +kernel)
theorem wi_X0_weigh : Cond.instanceMethod yX0_weigh ∈ BIG := List.mem_of_getElem? (i := 244) (by decide +kernel)
theorem wse_X0_weigh : Cond.selects RX0 yX0_weigh yX0_weigh ∈ BIG := List.mem_of_getElem? (i := 245) (by decide +kernel)
theorem wc_X0_weigh : Cond.code yX0_weigh cX0_weigh 7 none ∈ BIG := List.mem_of_getElem? (i := 246) (by decide +kernel)
theorem wm_X0_42 : Cond.methodLink RX0 42 yX0_span ∈ BIG := List.mem_of_getElem? (i := 247) (by decide +kernel)
theorem wi_X0_span : Cond.instanceMethod yX0_span ∈ BIG := List.mem_of_getElem? (i := 248) (by decide +kernel)
theorem wse_X0_span : Cond.selects RX0 yX0_span yX0_span ∈ BIG := List.mem_of_getElem? (i := 249) (by decide +kernel)
theorem wc_X0_span : Cond.code yX0_span cX0_span 1 (some .int) ∈ BIG := List.mem_of_getElem? (i := 250) (by decide +kernel)
theorem wm_L_52 : Cond.methodLink RL 52 yX7_told ∈ BIG := List.mem_of_getElem? (i := 251) (by decide +kernel)
theorem wi_X7_told : Cond.instanceMethod yX7_told ∈ BIG := List.mem_of_getElem? (i := 252) (by decide +kernel)
theorem wse_X7_told : Cond.selects RX7 yX7_told yX7_told ∈ BIG := List.mem_of_getElem? (i := 253) (by decide +kernel)
theorem wc_X7_told : Cond.code yX7_told cX7_told 3 (some .int) ∈ BIG := List.mem_of_getElem? (i := 254) (by decide +kernel)
theorem wk_X7_75 : Cond.constantLong RX7 75 (4) ∈ BIG := List.mem_of_getElem? (i := 255) (by decide +kernel)
theorem wk_X7_77 : Cond.constant RX7 77 (-100001) ∈ BIG := List.mem_of_getElem? (i := 256) (by decide +kernel)
theorem wm_X7_78 : Cond.methodLink RX7 78 yX7_momentAt ∈ BIG := List.mem_of_getElem? (i := 257) (by decide +kernel)
theorem wi_X7_momentAt : Cond.instanceMethod yX7_momentAt ∈ BIG := List.mem_of_getElem? (i := 258) (by decide +kernel)
theorem wse_X7_momentAt : Cond.selects RX7 yX7_momentAt yX7_momentAt ∈ BIG := List.mem_of_getElem? (i := 259) (by decide +kernel)
theorem wc_X7_momentAt : Cond.code yX7_momentAt cX7_momentAt 4 (some .int) ∈ BIG := List.mem_of_getElem? (i := 260) (by decide +kernel)
theorem wm_L_53 : Cond.methodLink RL 53 yX6_stands ∈ BIG := List.mem_of_getElem? (i := 261) (by decide +kernel)
theorem wi_X6_stands : Cond.instanceMethod yX6_stands ∈ BIG := List.mem_of_getElem? (i := 262) (by decide +kernel)
theorem wse_X6_stands : Cond.selects RX6 yX6_stands yX6_stands ∈ BIG := List.mem_of_getElem? (i := 263) (by decide +kernel)
theorem wc_X6_stands : Cond.code yX6_stands cX6_stands 1 (some .int) ∈ BIG := List.mem_of_getElem? (i := 264) (by decide +kernel)
theorem wm_X6_134 : Cond.methodLink RX6 134 yX6_holdsUnder ∈ BIG := List.mem_of_getElem? (i := 265) (by decide +kernel)
theorem wi_X6_holdsUnder : Cond.instanceMethod yX6_holdsUnder ∈ BIG := List.mem_of_getElem? (i := 266) (by decide +kernel)
theorem wse_X6_holdsUnder : Cond.selects RX6 yX6_holdsUnder yX6_holdsUnder ∈ BIG := List.mem_of_getElem? (i := 267) (by decide +kernel)
theorem wc_X6_holdsUnder : Cond.code yX6_holdsUnder cX6_holdsUnder 2 (some .boolean) ∈ BIG := List.mem_of_getElem? (i := 268) (by decide +kernel)
theorem wm_X6_199 : Cond.methodLink RX6 199 yX5_gather ∈ BIG := List.mem_of_getElem? (i := 269) (by decide +kernel)
theorem wi_X5_gather : Cond.instanceMethod yX5_gather ∈ BIG := List.mem_of_getElem? (i := 270) (by decide +kernel)
theorem wse_X5_gather : Cond.selects RX5 yX5_gather yX5_gather ∈ BIG := List.mem_of_getElem? (i := 271) (by decide +kernel)
theorem wc_X5_gather : Cond.code yX5_gather cX5_gather 9 none ∈ BIG := List.mem_of_getElem? (i := 272) (by decide +kernel)
theorem wf_X5_29 : Cond.fieldLink RX5 29 "StandingArch$Triples" "count" "I" ∈ BIG := List.mem_of_getElem? (i := 273) (by decide +kernel)
theorem wf_X5_33 : Cond.fieldLink RX5 33 "StandingArch$Arch" "last" "I" ∈ BIG := List.mem_of_getElem? (i := 274) (by decide +kernel)
theorem wf_X5_36 : Cond.fieldLink RX5 36 "StandingArch$Arch" "low" "[I" ∈ BIG := List.mem_of_getElem? (i := 275) (by decide +kernel)
theorem wf_X5_40 : Cond.fieldLink RX5 40 "StandingArch$Arch" "high" "[I" ∈ BIG := List.mem_of_getElem? (i := 276) (by decide +kernel)
theorem wm_X5_23 : Cond.methodLink RX5 23 yX0_weigh ∈ BIG := List.mem_of_getElem? (i := 277) (by decide +kernel)
theorem wm_X5_43 : Cond.methodLink RX5 43 yX0_rise ∈ BIG := List.mem_of_getElem? (i := 278) (by decide +kernel)
theorem wi_X0_rise : Cond.instanceMethod yX0_rise ∈ BIG := List.mem_of_getElem? (i := 279) (by decide +kernel)
theorem wse_X0_rise : Cond.selects RX0 yX0_rise yX0_rise ∈ BIG := List.mem_of_getElem? (i := 280) (by decide +kernel)
theorem wc_X0_rise : Cond.code yX0_rise cX0_rise 8 (some .long) ∈ BIG := List.mem_of_getElem? (i := 281) (by decide +kernel)
theorem wm_X5_47 : Cond.methodLink RX5 47 yX0_bend ∈ BIG := List.mem_of_getElem? (i := 282) (by decide +kernel)
theorem wi_X0_bend : Cond.instanceMethod yX0_bend ∈ BIG := List.mem_of_getElem? (i := 283) (by decide +kernel)
theorem wse_X0_bend : Cond.selects RX0 yX0_bend yX0_bend ∈ BIG := List.mem_of_getElem? (i := 284) (by decide +kernel)
theorem wc_X0_bend : Cond.code yX0_bend cX0_bend 4 (some .long) ∈ BIG := List.mem_of_getElem? (i := 285) (by decide +kernel)
theorem wm_X0_46 : Cond.methodLink RX0 46 yX0_rise ∈ BIG := List.mem_of_getElem? (i := 286) (by decide +kernel)
theorem wm_X6_214 : Cond.methodLink RX6 214 yX5_hold ∈ BIG := List.mem_of_getElem? (i := 287) (by decide +kernel)
theorem wi_X5_hold : Cond.instanceMethod yX5_hold ∈ BIG := List.mem_of_getElem? (i := 288) (by decide +kernel)
theorem wse_X5_hold : Cond.selects RX5 yX5_hold yX5_hold ∈ BIG := List.mem_of_getElem? (i := 289) (by decide +kernel)
theorem wc_X5_hold : Cond.code yX5_hold cX5_hold 2 (some .boolean) ∈ BIG := List.mem_of_getElem? (i := 290) (by decide +kernel)
theorem wm_X5_50 : Cond.methodLink RX5 50 Lib.MathLoose.abs_long.x ∈ BIG := List.mem_of_getElem? (i := 291) (by decide +kernel)
theorem wst_abs : Cond.static Lib.MathLoose.abs_long.x ∈ BIG := List.mem_of_getElem? (i := 292) (by decide +kernel)
theorem win_Math : Cond.initialized "java/lang/Math" ∈ BIG := List.mem_of_getElem? (i := 293) (by decide +kernel)
theorem wc_abs : Cond.code Lib.MathLoose.abs_long.x Lib.MathLoose.abs_long.code 2 (some .long) ∈ BIG := List.mem_of_getElem? (i := 294) (by decide +kernel)
theorem wm_X5_56 : Cond.methodLink RX5 56 yX5_tightestLeast ∈ BIG := List.mem_of_getElem? (i := 295) (by decide +kernel)
theorem wi_X5_tightestLeast : Cond.instanceMethod yX5_tightestLeast ∈ BIG := List.mem_of_getElem? (i := 296) (by decide +kernel)
theorem wse_X5_tightestLeast : Cond.selects RX5 yX5_tightestLeast yX5_tightestLeast ∈ BIG := List.mem_of_getElem? (i := 297) (by decide +kernel)
theorem wc_X5_tightestLeast : Cond.code yX5_tightestLeast cX5_tightestLeast 7 (some .int) ∈ BIG := List.mem_of_getElem? (i := 298) (by decide +kernel)
theorem wm_X5_86 : Cond.methodLink RX5 86 yX5_least ∈ BIG := List.mem_of_getElem? (i := 299) (by decide +kernel)
theorem wi_X5_least : Cond.instanceMethod yX5_least ∈ BIG := List.mem_of_getElem? (i := 300) (by decide +kernel)
theorem wse_X5_least : Cond.selects RX5 yX5_least yX5_least ∈ BIG := List.mem_of_getElem? (i := 301) (by decide +kernel)
theorem wc_X5_least : Cond.code yX5_least cX5_least 6 (some .long) ∈ BIG := List.mem_of_getElem? (i := 302) (by decide +kernel)
theorem wm_X5_60 : Cond.methodLink RX5 60 yX5_tightestMost ∈ BIG := List.mem_of_getElem? (i := 303) (by decide +kernel)
theorem wi_X5_tightestMost : Cond.instanceMethod yX5_tightestMost ∈ BIG := List.mem_of_getElem? (i := 304) (by decide +kernel)
theorem wse_X5_tightestMost : Cond.selects RX5 yX5_tightestMost yX5_tightestMost ∈ BIG := List.mem_of_getElem? (i := 305) (by decide +kernel)
theorem wc_X5_tightestMost : Cond.code yX5_tightestMost cX5_tightestMost 7 (some .int) ∈ BIG := List.mem_of_getElem? (i := 306) (by decide +kernel)
theorem wm_X5_90 : Cond.methodLink RX5 90 yX5_most ∈ BIG := List.mem_of_getElem? (i := 307) (by decide +kernel)
theorem wi_X5_most : Cond.instanceMethod yX5_most ∈ BIG := List.mem_of_getElem? (i := 308) (by decide +kernel)
theorem wse_X5_most : Cond.selects RX5 yX5_most yX5_most ∈ BIG := List.mem_of_getElem? (i := 309) (by decide +kernel)
theorem wc_X5_most : Cond.code yX5_most cX5_most 6 (some .long) ∈ BIG := List.mem_of_getElem? (i := 310) (by decide +kernel)
theorem wm_X5_63 : Cond.methodLink RX5 63 yX5_bars ∈ BIG := List.mem_of_getElem? (i := 311) (by decide +kernel)
theorem wi_X5_bars : Cond.instanceMethod yX5_bars ∈ BIG := List.mem_of_getElem? (i := 312) (by decide +kernel)
theorem wse_X5_bars : Cond.selects RX5 yX5_bars yX5_bars ∈ BIG := List.mem_of_getElem? (i := 313) (by decide +kernel)
theorem wc_X5_bars : Cond.code yX5_bars cX5_bars 7 (some .boolean) ∈ BIG := List.mem_of_getElem? (i := 314) (by decide +kernel)
theorem wm_L_57 : Cond.methodLink RL 57 yX7_stands ∈ BIG := List.mem_of_getElem? (i := 315) (by decide +kernel)
theorem wi_X7_stands : Cond.instanceMethod yX7_stands ∈ BIG := List.mem_of_getElem? (i := 316) (by decide +kernel)
theorem wse_X7_stands : Cond.selects RX7 yX7_stands yX7_stands ∈ BIG := List.mem_of_getElem? (i := 317) (by decide +kernel)
theorem wc_X7_stands : Cond.code yX7_stands cX7_stands 1 (some .int) ∈ BIG := List.mem_of_getElem? (i := 318) (by decide +kernel)
theorem wf_X7_114 : Cond.fieldLink RX7 114 "StandingArchModel" "stands" "Z" ∈ BIG := List.mem_of_getElem? (i := 319) (by decide +kernel)
theorem wm_X7_141 : Cond.methodLink RX7 141 yX7_findLines ∈ BIG := List.mem_of_getElem? (i := 320) (by decide +kernel)
theorem wi_X7_findLines : Cond.instanceMethod yX7_findLines ∈ BIG := List.mem_of_getElem? (i := 321) (by decide +kernel)
theorem wse_X7_findLines : Cond.selects RX7 yX7_findLines yX7_findLines ∈ BIG := List.mem_of_getElem? (i := 322) (by decide +kernel)
theorem wc_X7_findLines : Cond.code yX7_findLines cX7_findLines 4 none ∈ BIG := List.mem_of_getElem? (i := 323) (by decide +kernel)
theorem wf_X7_88 : Cond.fieldLink RX7 88 "StandingArchModel" "rows" "I" ∈ BIG := List.mem_of_getElem? (i := 324) (by decide +kernel)
theorem wm_X7_110 : Cond.methodLink RX7 110 yX7_findRows ∈ BIG := List.mem_of_getElem? (i := 325) (by decide +kernel)
theorem wi_X7_findRows : Cond.instanceMethod yX7_findRows ∈ BIG := List.mem_of_getElem? (i := 326) (by decide +kernel)
theorem wse_X7_findRows : Cond.selects RX7 yX7_findRows yX7_findRows ∈ BIG := List.mem_of_getElem? (i := 327) (by decide +kernel)
theorem wc_X7_findRows : Cond.code yX7_findRows cX7_findRows 15 none ∈ BIG := List.mem_of_getElem? (i := 328) (by decide +kernel)
theorem wk_X7_86 : Cond.constantLong RX7 86 (-2) ∈ BIG := List.mem_of_getElem? (i := 329) (by decide +kernel)
theorem wm_X7_82 : Cond.methodLink RX7 82 yX7_setRow ∈ BIG := List.mem_of_getElem? (i := 330) (by decide +kernel)
theorem wi_X7_setRow : Cond.instanceMethod yX7_setRow ∈ BIG := List.mem_of_getElem? (i := 331) (by decide +kernel)
theorem wse_X7_setRow : Cond.selects RX7 yX7_setRow yX7_setRow ∈ BIG := List.mem_of_getElem? (i := 332) (by decide +kernel)
theorem wc_X7_setRow : Cond.code yX7_setRow cX7_setRow 12 none ∈ BIG := List.mem_of_getElem? (i := 333) (by decide +kernel)
theorem wm_X7_118 : Cond.methodLink RX7 118 yX7_meetThree ∈ BIG := List.mem_of_getElem? (i := 334) (by decide +kernel)
theorem wi_X7_meetThree : Cond.instanceMethod yX7_meetThree ∈ BIG := List.mem_of_getElem? (i := 335) (by decide +kernel)
theorem wse_X7_meetThree : Cond.selects RX7 yX7_meetThree yX7_meetThree ∈ BIG := List.mem_of_getElem? (i := 336) (by decide +kernel)
theorem wc_X7_meetThree : Cond.code yX7_meetThree cX7_meetThree 4 (some .boolean) ∈ BIG := List.mem_of_getElem? (i := 337) (by decide +kernel)
theorem wf_X7_91 : Cond.fieldLink RX7 91 "StandingArchModel" "by" "J" ∈ BIG := List.mem_of_getElem? (i := 338) (by decide +kernel)
theorem wm_X7_95 : Cond.methodLink RX7 95 yX7_three ∈ BIG := List.mem_of_getElem? (i := 339) (by decide +kernel)
theorem wi_X7_three : Cond.instanceMethod yX7_three ∈ BIG := List.mem_of_getElem? (i := 340) (by decide +kernel)
theorem wse_X7_three : Cond.selects RX7 yX7_three yX7_three ∈ BIG := List.mem_of_getElem? (i := 341) (by decide +kernel)
theorem wc_X7_three : Cond.code yX7_three cX7_three 13 (some .long) ∈ BIG := List.mem_of_getElem? (i := 342) (by decide +kernel)
theorem wm_X7_99 : Cond.methodLink RX7 99 yX7_turnSpot ∈ BIG := List.mem_of_getElem? (i := 343) (by decide +kernel)
theorem wi_X7_turnSpot : Cond.instanceMethod yX7_turnSpot ∈ BIG := List.mem_of_getElem? (i := 344) (by decide +kernel)
theorem wse_X7_turnSpot : Cond.selects RX7 yX7_turnSpot yX7_turnSpot ∈ BIG := List.mem_of_getElem? (i := 345) (by decide +kernel)
theorem wc_X7_turnSpot : Cond.code yX7_turnSpot cX7_turnSpot 2 none ∈ BIG := List.mem_of_getElem? (i := 346) (by decide +kernel)
theorem wm_X7_102 : Cond.methodLink RX7 102 yX7_keepsAll ∈ BIG := List.mem_of_getElem? (i := 347) (by decide +kernel)
theorem wi_X7_keepsAll : Cond.instanceMethod yX7_keepsAll ∈ BIG := List.mem_of_getElem? (i := 348) (by decide +kernel)
theorem wse_X7_keepsAll : Cond.selects RX7 yX7_keepsAll yX7_keepsAll ∈ BIG := List.mem_of_getElem? (i := 349) (by decide +kernel)
theorem wc_X7_keepsAll : Cond.code yX7_keepsAll cX7_keepsAll 4 (some .boolean) ∈ BIG := List.mem_of_getElem? (i := 350) (by decide +kernel)
theorem wm_X7_122 : Cond.methodLink RX7 122 yX7_takeSpot ∈ BIG := List.mem_of_getElem? (i := 351) (by decide +kernel)
theorem wi_X7_takeSpot : Cond.instanceMethod yX7_takeSpot ∈ BIG := List.mem_of_getElem? (i := 352) (by decide +kernel)
theorem wse_X7_takeSpot : Cond.selects RX7 yX7_takeSpot yX7_takeSpot ∈ BIG := List.mem_of_getElem? (i := 353) (by decide +kernel)
theorem wc_X7_takeSpot : Cond.code yX7_takeSpot cX7_takeSpot 12 none ∈ BIG := List.mem_of_getElem? (i := 354) (by decide +kernel)
theorem wf_X7_128 : Cond.fieldLink RX7 128 "StandingArchModel" "bestBy" "J" ∈ BIG := List.mem_of_getElem? (i := 355) (by decide +kernel)
theorem wf_X7_135 : Cond.fieldLink RX7 135 "StandingArchModel" "leastK" "J" ∈ BIG := List.mem_of_getElem? (i := 356) (by decide +kernel)
theorem wf_X7_138 : Cond.fieldLink RX7 138 "StandingArchModel" "leastBy" "J" ∈ BIG := List.mem_of_getElem? (i := 357) (by decide +kernel)
theorem wm_X7_125 : Cond.methodLink RX7 125 yX7_common ∈ BIG := List.mem_of_getElem? (i := 358) (by decide +kernel)
theorem wst_X7_common : Cond.static yX7_common ∈ BIG := List.mem_of_getElem? (i := 359) (by decide +kernel)
theorem wc_X7_common : Cond.code yX7_common cX7_common 10 (some .long) ∈ BIG := List.mem_of_getElem? (i := 360) (by decide +kernel)
theorem wm_X7_131 : Cond.methodLink RX7 131 yX7_compare ∈ BIG := List.mem_of_getElem? (i := 361) (by decide +kernel)
theorem wst_X7_compare : Cond.static yX7_compare ∈ BIG := List.mem_of_getElem? (i := 362) (by decide +kernel)
theorem wc_X7_compare : Cond.code yX7_compare cX7_compare 25 (some .int) ∈ BIG := List.mem_of_getElem? (i := 363) (by decide +kernel)
theorem wm_X7_106 : Cond.methodLink RX7 106 yX7_down ∈ BIG := List.mem_of_getElem? (i := 364) (by decide +kernel)
theorem wst_X7_down : Cond.static yX7_down ∈ BIG := List.mem_of_getElem? (i := 365) (by decide +kernel)
theorem wc_X7_down : Cond.code yX7_down cX7_down 6 (some .long) ∈ BIG := List.mem_of_getElem? (i := 366) (by decide +kernel)
theorem wm_L_58 : Cond.methodLink RL 58 yX6_thrust ∈ BIG := List.mem_of_getElem? (i := 367) (by decide +kernel)
theorem wi_X6_thrust : Cond.instanceMethod yX6_thrust ∈ BIG := List.mem_of_getElem? (i := 368) (by decide +kernel)
theorem wse_X6_thrust : Cond.selects RX6 yX6_thrust yX6_thrust ∈ BIG := List.mem_of_getElem? (i := 369) (by decide +kernel)
theorem wc_X6_thrust : Cond.code yX6_thrust cX6_thrust 4 (some .long) ∈ BIG := List.mem_of_getElem? (i := 370) (by decide +kernel)
theorem wk_X6_141 : Cond.constantLong RX6 141 (-1) ∈ BIG := List.mem_of_getElem? (i := 371) (by decide +kernel)
theorem wk_X6_143 : Cond.constantLong RX6 143 (-2) ∈ BIG := List.mem_of_getElem? (i := 372) (by decide +kernel)
theorem wf_X6_152 : Cond.fieldLink RX6 152 "StandingArch$Fraction" "above" "J" ∈ BIG := List.mem_of_getElem? (i := 373) (by decide +kernel)
theorem wk_X6_156 : Cond.constantLong RX6 156 (-4) ∈ BIG := List.mem_of_getElem? (i := 374) (by decide +kernel)
theorem wf_X6_158 : Cond.fieldLink RX6 158 "StandingArch$Fraction" "below" "J" ∈ BIG := List.mem_of_getElem? (i := 375) (by decide +kernel)
theorem wm_X6_138 : Cond.methodLink RX6 138 yX6_isChoice ∈ BIG := List.mem_of_getElem? (i := 376) (by decide +kernel)
theorem wst_X6_isChoice : Cond.static yX6_isChoice ∈ BIG := List.mem_of_getElem? (i := 377) (by decide +kernel)
theorem wc_X6_isChoice : Cond.code yX6_isChoice cX6_isChoice 1 (some .boolean) ∈ BIG := List.mem_of_getElem? (i := 378) (by decide +kernel)
theorem wm_X6_145 : Cond.methodLink RX6 145 yX5_greatestPush ∈ BIG := List.mem_of_getElem? (i := 379) (by decide +kernel)
theorem wi_X5_greatestPush : Cond.instanceMethod yX5_greatestPush ∈ BIG := List.mem_of_getElem? (i := 380) (by decide +kernel)
theorem wse_X5_greatestPush : Cond.selects RX5 yX5_greatestPush yX5_greatestPush ∈ BIG := List.mem_of_getElem? (i := 381) (by decide +kernel)
theorem wc_X5_greatestPush : Cond.code yX5_greatestPush cX5_greatestPush 3 (some .boolean) ∈ BIG := List.mem_of_getElem? (i := 382) (by decide +kernel)
theorem wk_X5_67 : Cond.constantLong RX5 67 (2) ∈ BIG := List.mem_of_getElem? (i := 383) (by decide +kernel)
theorem wm_X5_69 : Cond.methodLink RX5 69 yX2_become ∈ BIG := List.mem_of_getElem? (i := 384) (by decide +kernel)
theorem wi_X2_become : Cond.instanceMethod yX2_become ∈ BIG := List.mem_of_getElem? (i := 385) (by decide +kernel)
theorem wse_X2_become : Cond.selects RX2 yX2_become yX2_become ∈ BIG := List.mem_of_getElem? (i := 386) (by decide +kernel)
theorem wc_X2_become : Cond.code yX2_become cX2_become 7 none ∈ BIG := List.mem_of_getElem? (i := 387) (by decide +kernel)
theorem wm_X2_16 : Cond.methodLink RX2 16 Lib.MathLoose.abs_long.x ∈ BIG := List.mem_of_getElem? (i := 388) (by decide +kernel)
theorem wm_X2_22 : Cond.methodLink RX2 22 yX2_commonDivisor ∈ BIG := List.mem_of_getElem? (i := 389) (by decide +kernel)
theorem wst_X2_commonDivisor : Cond.static yX2_commonDivisor ∈ BIG := List.mem_of_getElem? (i := 390) (by decide +kernel)
theorem wc_X2_commonDivisor : Cond.code yX2_commonDivisor cX2_commonDivisor 7 (some .long) ∈ BIG := List.mem_of_getElem? (i := 391) (by decide +kernel)
theorem wm_X6_149 : Cond.methodLink RX6 149 yX5_leastPush ∈ BIG := List.mem_of_getElem? (i := 392) (by decide +kernel)
theorem wi_X5_leastPush : Cond.instanceMethod yX5_leastPush ∈ BIG := List.mem_of_getElem? (i := 393) (by decide +kernel)
theorem wse_X5_leastPush : Cond.selects RX5 yX5_leastPush yX5_leastPush ∈ BIG := List.mem_of_getElem? (i := 394) (by decide +kernel)
theorem wc_X5_leastPush : Cond.code yX5_leastPush cX5_leastPush 3 (some .boolean) ∈ BIG := List.mem_of_getElem? (i := 395) (by decide +kernel)
theorem wm_X6_161 : Cond.methodLink RX6 161 yX0_span ∈ BIG := List.mem_of_getElem? (i := 396) (by decide +kernel)
theorem wm_X6_165 : Cond.methodLink RX6 165 yX2_become ∈ BIG := List.mem_of_getElem? (i := 397) (by decide +kernel)
theorem wm_X6_169 : Cond.methodLink RX6 169 yX2_part ∈ BIG := List.mem_of_getElem? (i := 398) (by decide +kernel)
theorem wi_X2_part : Cond.instanceMethod yX2_part ∈ BIG := List.mem_of_getElem? (i := 399) (by decide +kernel)
theorem wse_X2_part : Cond.selects RX2 yX2_part yX2_part ∈ BIG := List.mem_of_getElem? (i := 400) (by decide +kernel)
theorem wc_X2_part : Cond.code yX2_part cX2_part 2 (some .long) ∈ BIG := List.mem_of_getElem? (i := 401) (by decide +kernel)
theorem wm_L_62 : Cond.methodLink RL 62 yX7_thrust ∈ BIG := List.mem_of_getElem? (i := 402) (by decide +kernel)
theorem wi_X7_thrust : Cond.instanceMethod yX7_thrust ∈ BIG := List.mem_of_getElem? (i := 403) (by decide +kernel)
theorem wse_X7_thrust : Cond.selects RX7 yX7_thrust yX7_thrust ∈ BIG := List.mem_of_getElem? (i := 404) (by decide +kernel)
theorem wc_X7_thrust : Cond.code yX7_thrust cX7_thrust 9 (some .long) ∈ BIG := List.mem_of_getElem? (i := 405) (by decide +kernel)
theorem wk_X7_144 : Cond.constantLong RX7 144 (-1) ∈ BIG := List.mem_of_getElem? (i := 406) (by decide +kernel)
theorem wk_X7_149 : Cond.constantLong RX7 149 (-4) ∈ BIG := List.mem_of_getElem? (i := 407) (by decide +kernel)
theorem wm_X7_146 : Cond.methodLink RX7 146 yX7_isLoose ∈ BIG := List.mem_of_getElem? (i := 408) (by decide +kernel)
theorem wi_X7_isLoose : Cond.instanceMethod yX7_isLoose ∈ BIG := List.mem_of_getElem? (i := 409) (by decide +kernel)
theorem wse_X7_isLoose : Cond.selects RX7 yX7_isLoose yX7_isLoose ∈ BIG := List.mem_of_getElem? (i := 410) (by decide +kernel)
theorem wc_X7_isLoose : Cond.code yX7_isLoose cX7_isLoose 3 (some .boolean) ∈ BIG := List.mem_of_getElem? (i := 411) (by decide +kernel)
theorem wm_L_63 : Cond.methodLink RL 63 yX6_height ∈ BIG := List.mem_of_getElem? (i := 412) (by decide +kernel)
theorem wi_X6_height : Cond.instanceMethod yX6_height ∈ BIG := List.mem_of_getElem? (i := 413) (by decide +kernel)
theorem wse_X6_height : Cond.selects RX6 yX6_height yX6_height ∈ BIG := List.mem_of_getElem? (i := 414) (by decide +kernel)
theorem wc_X6_height : Cond.code yX6_height cX6_height 3 (some .long) ∈ BIG := List.mem_of_getElem? (i := 415) (by decide +kernel)
theorem wk_X6_173 : Cond.constantLong RX6 173 (-1000000000000001) ∈ BIG := List.mem_of_getElem? (i := 416) (by decide +kernel)
theorem wk_X6_175 : Cond.constantLong RX6 175 (-1000000000000002) ∈ BIG := List.mem_of_getElem? (i := 417) (by decide +kernel)
theorem wk_X6_177 : Cond.constantLong RX6 177 (-1000000000000004) ∈ BIG := List.mem_of_getElem? (i := 418) (by decide +kernel)
theorem wm_X6_179 : Cond.methodLink RX6 179 yX3_lay ∈ BIG := List.mem_of_getElem? (i := 419) (by decide +kernel)
theorem wi_X3_lay : Cond.instanceMethod yX3_lay ∈ BIG := List.mem_of_getElem? (i := 420) (by decide +kernel)
theorem wse_X3_lay : Cond.selects RX3 yX3_lay yX3_lay ∈ BIG := List.mem_of_getElem? (i := 421) (by decide +kernel)
theorem wc_X3_lay : Cond.code yX3_lay cX3_lay 2 none ∈ BIG := List.mem_of_getElem? (i := 422) (by decide +kernel)
theorem wf_X3_23 : Cond.fieldLink RX3 23 "StandingArch$Fraction" "above" "J" ∈ BIG := List.mem_of_getElem? (i := 423) (by decide +kernel)
theorem wf_X3_28 : Cond.fieldLink RX3 28 "StandingArch$LeastLine" "pushAbove" "J" ∈ BIG := List.mem_of_getElem? (i := 424) (by decide +kernel)
theorem wf_X3_31 : Cond.fieldLink RX3 31 "StandingArch$Fraction" "below" "J" ∈ BIG := List.mem_of_getElem? (i := 425) (by decide +kernel)
theorem wm_X3_34 : Cond.methodLink RX3 34 yX3_findLeastStart ∈ BIG := List.mem_of_getElem? (i := 426) (by decide +kernel)
theorem wi_X3_findLeastStart : Cond.instanceMethod yX3_findLeastStart ∈ BIG := List.mem_of_getElem? (i := 427) (by decide +kernel)
theorem wse_X3_findLeastStart : Cond.selects RX3 yX3_findLeastStart yX3_findLeastStart ∈ BIG := List.mem_of_getElem? (i := 428) (by decide +kernel)
theorem wc_X3_findLeastStart : Cond.code yX3_findLeastStart cX3_findLeastStart 7 none ∈ BIG := List.mem_of_getElem? (i := 429) (by decide +kernel)
theorem wf_X3_44 : Cond.fieldLink RX3 44 "StandingArch$LeastLine" "startAbove" "J" ∈ BIG := List.mem_of_getElem? (i := 430) (by decide +kernel)
theorem wf_X3_47 : Cond.fieldLink RX3 47 "StandingArch$Arch" "last" "I" ∈ BIG := List.mem_of_getElem? (i := 431) (by decide +kernel)
theorem wf_X3_53 : Cond.fieldLink RX3 53 "StandingArch$Arch" "place" "[I" ∈ BIG := List.mem_of_getElem? (i := 432) (by decide +kernel)
theorem wm_X3_40 : Cond.methodLink RX3 40 yX3_straightLow ∈ BIG := List.mem_of_getElem? (i := 433) (by decide +kernel)
theorem wi_X3_straightLow : Cond.instanceMethod yX3_straightLow ∈ BIG := List.mem_of_getElem? (i := 434) (by decide +kernel)
theorem wse_X3_straightLow : Cond.selects RX3 yX3_straightLow yX3_straightLow ∈ BIG := List.mem_of_getElem? (i := 435) (by decide +kernel)
theorem wc_X3_straightLow : Cond.code yX3_straightLow cX3_straightLow 2 (some .long) ∈ BIG := List.mem_of_getElem? (i := 436) (by decide +kernel)
theorem wf_X3_74 : Cond.fieldLink RX3 74 "StandingArch$Arch" "low" "[I" ∈ BIG := List.mem_of_getElem? (i := 437) (by decide +kernel)
theorem wf_X3_67 : Cond.fieldLink RX3 67 "StandingArch$Arch" "moment" "[I" ∈ BIG := List.mem_of_getElem? (i := 438) (by decide +kernel)
theorem wm_X3_57 : Cond.methodLink RX3 57 yX3_straightHigh ∈ BIG := List.mem_of_getElem? (i := 439) (by decide +kernel)
theorem wi_X3_straightHigh : Cond.instanceMethod yX3_straightHigh ∈ BIG := List.mem_of_getElem? (i := 440) (by decide +kernel)
theorem wse_X3_straightHigh : Cond.selects RX3 yX3_straightHigh yX3_straightHigh ∈ BIG := List.mem_of_getElem? (i := 441) (by decide +kernel)
theorem wc_X3_straightHigh : Cond.code yX3_straightHigh cX3_straightHigh 2 (some .long) ∈ BIG := List.mem_of_getElem? (i := 442) (by decide +kernel)
theorem wf_X3_77 : Cond.fieldLink RX3 77 "StandingArch$Arch" "high" "[I" ∈ BIG := List.mem_of_getElem? (i := 443) (by decide +kernel)
theorem wm_X3_37 : Cond.methodLink RX3 37 yX3_findLeastSlope ∈ BIG := List.mem_of_getElem? (i := 444) (by decide +kernel)
theorem wi_X3_findLeastSlope : Cond.instanceMethod yX3_findLeastSlope ∈ BIG := List.mem_of_getElem? (i := 445) (by decide +kernel)
theorem wse_X3_findLeastSlope : Cond.selects RX3 yX3_findLeastSlope yX3_findLeastSlope ∈ BIG := List.mem_of_getElem? (i := 446) (by decide +kernel)
theorem wc_X3_findLeastSlope : Cond.code yX3_findLeastSlope cX3_findLeastSlope 6 none ∈ BIG := List.mem_of_getElem? (i := 447) (by decide +kernel)
theorem wf_X3_60 : Cond.fieldLink RX3 60 "StandingArch$LeastLine" "slopeAbove" "J" ∈ BIG := List.mem_of_getElem? (i := 448) (by decide +kernel)
theorem wm_X3_63 : Cond.methodLink RX3 63 yX0_span ∈ BIG := List.mem_of_getElem? (i := 449) (by decide +kernel)
theorem wm_X6_183 : Cond.methodLink RX6 183 yX3_heightInto ∈ BIG := List.mem_of_getElem? (i := 450) (by decide +kernel)
theorem wi_X3_heightInto : Cond.instanceMethod yX3_heightInto ∈ BIG := List.mem_of_getElem? (i := 451) (by decide +kernel)
theorem wse_X3_heightInto : Cond.selects RX3 yX3_heightInto yX3_heightInto ∈ BIG := List.mem_of_getElem? (i := 452) (by decide +kernel)
theorem wc_X3_heightInto : Cond.code yX3_heightInto cX3_heightInto 7 none ∈ BIG := List.mem_of_getElem? (i := 453) (by decide +kernel)
theorem wm_X3_70 : Cond.methodLink RX3 70 yX2_become ∈ BIG := List.mem_of_getElem? (i := 454) (by decide +kernel)
theorem wm_L_66 : Cond.methodLink RL 66 yX7_height ∈ BIG := List.mem_of_getElem? (i := 455) (by decide +kernel)
theorem wi_X7_height : Cond.instanceMethod yX7_height ∈ BIG := List.mem_of_getElem? (i := 456) (by decide +kernel)
theorem wse_X7_height : Cond.selects RX7 yX7_height yX7_height ∈ BIG := List.mem_of_getElem? (i := 457) (by decide +kernel)
theorem wc_X7_height : Cond.code yX7_height cX7_height 9 (some .long) ∈ BIG := List.mem_of_getElem? (i := 458) (by decide +kernel)
theorem wk_X7_151 : Cond.constantLong RX7 151 (-1000000000000001) ∈ BIG := List.mem_of_getElem? (i := 459) (by decide +kernel)
theorem wk_X7_153 : Cond.constantLong RX7 153 (-1000000000000002) ∈ BIG := List.mem_of_getElem? (i := 460) (by decide +kernel)
theorem wk_X7_155 : Cond.constantLong RX7 155 (-1000000000000004) ∈ BIG := List.mem_of_getElem? (i := 461) (by decide +kernel)
theorem wm_L_67 : Cond.methodLink RL 67 yX6_bar ∈ BIG := List.mem_of_getElem? (i := 462) (by decide +kernel)
theorem wi_X6_bar : Cond.instanceMethod yX6_bar ∈ BIG := List.mem_of_getElem? (i := 463) (by decide +kernel)
theorem wse_X6_bar : Cond.selects RX6 yX6_bar yX6_bar ∈ BIG := List.mem_of_getElem? (i := 464) (by decide +kernel)
theorem wc_X6_bar : Cond.code yX6_bar cX6_bar 2 (some .int) ∈ BIG := List.mem_of_getElem? (i := 465) (by decide +kernel)
theorem wf_X6_190 : Cond.fieldLink RX6 190 "StandingArch$Bars" "count" "I" ∈ BIG := List.mem_of_getElem? (i := 466) (by decide +kernel)
theorem wf_X6_193 : Cond.fieldLink RX6 193 "StandingArch$Bars" "chosen" "[I" ∈ BIG := List.mem_of_getElem? (i := 467) (by decide +kernel)
theorem wm_X6_187 : Cond.methodLink RX6 187 yX1_find ∈ BIG := List.mem_of_getElem? (i := 468) (by decide +kernel)
theorem wi_X1_find : Cond.instanceMethod yX1_find ∈ BIG := List.mem_of_getElem? (i := 469) (by decide +kernel)
theorem wse_X1_find : Cond.selects RX1 yX1_find yX1_find ∈ BIG := List.mem_of_getElem? (i := 470) (by decide +kernel)
theorem wc_X1_find : Cond.code yX1_find cX1_find 1 none ∈ BIG := List.mem_of_getElem? (i := 471) (by decide +kernel)
theorem wf_X1_19 : Cond.fieldLink RX1 19 "StandingArch$Bars" "count" "I" ∈ BIG := List.mem_of_getElem? (i := 472) (by decide +kernel)
theorem wm_X1_23 : Cond.methodLink RX1 23 yX1_findFirst ∈ BIG := List.mem_of_getElem? (i := 473) (by decide +kernel)
theorem wi_X1_findFirst : Cond.instanceMethod yX1_findFirst ∈ BIG := List.mem_of_getElem? (i := 474) (by decide +kernel)
theorem wse_X1_findFirst : Cond.selects RX1 yX1_findFirst yX1_findFirst ∈ BIG := List.mem_of_getElem? (i := 475) (by decide +kernel)
theorem wc_X1_findFirst : Cond.code yX1_findFirst cX1_findFirst 6 (some .boolean) ∈ BIG := List.mem_of_getElem? (i := 476) (by decide +kernel)
theorem wf_X1_27 : Cond.fieldLink RX1 27 "StandingArch$Arch" "last" "I" ∈ BIG := List.mem_of_getElem? (i := 477) (by decide +kernel)
theorem wm_X1_32 : Cond.methodLink RX1 32 yX1_barsThree ∈ BIG := List.mem_of_getElem? (i := 478) (by decide +kernel)
theorem wi_X1_barsThree : Cond.instanceMethod yX1_barsThree ∈ BIG := List.mem_of_getElem? (i := 479) (by decide +kernel)
theorem wse_X1_barsThree : Cond.selects RX1 yX1_barsThree yX1_barsThree ∈ BIG := List.mem_of_getElem? (i := 480) (by decide +kernel)
theorem wc_X1_barsThree : Cond.code yX1_barsThree cX1_barsThree 5 (some .boolean) ∈ BIG := List.mem_of_getElem? (i := 481) (by decide +kernel)
theorem wm_X1_39 : Cond.methodLink RX1 39 yX0_bend ∈ BIG := List.mem_of_getElem? (i := 482) (by decide +kernel)
theorem wm_X1_43 : Cond.methodLink RX1 43 yX1_isBeyondChord ∈ BIG := List.mem_of_getElem? (i := 483) (by decide +kernel)
theorem wi_X1_isBeyondChord : Cond.instanceMethod yX1_isBeyondChord ∈ BIG := List.mem_of_getElem? (i := 484) (by decide +kernel)
theorem wse_X1_isBeyondChord : Cond.selects RX1 yX1_isBeyondChord yX1_isBeyondChord ∈ BIG := List.mem_of_getElem? (i := 485) (by decide +kernel)
theorem wc_X1_isBeyondChord : Cond.code yX1_isBeyondChord cX1_isBeyondChord 5 (some .boolean) ∈ BIG := List.mem_of_getElem? (i := 486) (by decide +kernel)
theorem wf_X1_54 : Cond.fieldLink RX1 54 "StandingArch$Arch" "high" "[I" ∈ BIG := List.mem_of_getElem? (i := 487) (by decide +kernel)
theorem wf_X1_57 : Cond.fieldLink RX1 57 "StandingArch$Arch" "low" "[I" ∈ BIG := List.mem_of_getElem? (i := 488) (by decide +kernel)
theorem wm_X1_60 : Cond.methodLink RX1 60 yX0_rise ∈ BIG := List.mem_of_getElem? (i := 489) (by decide +kernel)
theorem wm_X1_46 : Cond.methodLink RX1 46 yX1_keep ∈ BIG := List.mem_of_getElem? (i := 490) (by decide +kernel)
theorem wi_X1_keep : Cond.instanceMethod yX1_keep ∈ BIG := List.mem_of_getElem? (i := 491) (by decide +kernel)
theorem wse_X1_keep : Cond.selects RX1 yX1_keep yX1_keep ∈ BIG := List.mem_of_getElem? (i := 492) (by decide +kernel)
theorem wc_X1_keep : Cond.code yX1_keep cX1_keep 5 none ∈ BIG := List.mem_of_getElem? (i := 493) (by decide +kernel)
theorem wm_X1_36 : Cond.methodLink RX1 36 yX1_barsFour ∈ BIG := List.mem_of_getElem? (i := 494) (by decide +kernel)
theorem wi_X1_barsFour : Cond.instanceMethod yX1_barsFour ∈ BIG := List.mem_of_getElem? (i := 495) (by decide +kernel)
theorem wse_X1_barsFour : Cond.selects RX1 yX1_barsFour yX1_barsFour ∈ BIG := List.mem_of_getElem? (i := 496) (by decide +kernel)
theorem wc_X1_barsFour : Cond.code yX1_barsFour cX1_barsFour 6 (some .boolean) ∈ BIG := List.mem_of_getElem? (i := 497) (by decide +kernel)
theorem wm_X1_50 : Cond.methodLink RX1 50 yX1_isCrossed ∈ BIG := List.mem_of_getElem? (i := 498) (by decide +kernel)
theorem wi_X1_isCrossed : Cond.instanceMethod yX1_isCrossed ∈ BIG := List.mem_of_getElem? (i := 499) (by decide +kernel)
theorem wse_X1_isCrossed : Cond.selects RX1 yX1_isCrossed yX1_isCrossed ∈ BIG := List.mem_of_getElem? (i := 500) (by decide +kernel)
theorem wc_X1_isCrossed : Cond.code yX1_isCrossed cX1_isCrossed 10 (some .boolean) ∈ BIG := List.mem_of_getElem? (i := 501) (by decide +kernel)
theorem wm_L_70 : Cond.methodLink RL 70 yX7_bar ∈ BIG := List.mem_of_getElem? (i := 502) (by decide +kernel)
theorem wi_X7_bar : Cond.instanceMethod yX7_bar ∈ BIG := List.mem_of_getElem? (i := 503) (by decide +kernel)
theorem wse_X7_bar : Cond.selects RX7 yX7_bar yX7_bar ∈ BIG := List.mem_of_getElem? (i := 504) (by decide +kernel)
theorem wc_X7_bar : Cond.code yX7_bar cX7_bar 2 (some .int) ∈ BIG := List.mem_of_getElem? (i := 505) (by decide +kernel)
theorem wf_X7_184 : Cond.fieldLink RX7 184 "StandingArchModel" "bars" "I" ∈ BIG := List.mem_of_getElem? (i := 506) (by decide +kernel)
theorem wm_X7_180 : Cond.methodLink RX7 180 yX7_findBars ∈ BIG := List.mem_of_getElem? (i := 507) (by decide +kernel)
theorem wi_X7_findBars : Cond.instanceMethod yX7_findBars ∈ BIG := List.mem_of_getElem? (i := 508) (by decide +kernel)
theorem wse_X7_findBars : Cond.selects RX7 yX7_findBars yX7_findBars ∈ BIG := List.mem_of_getElem? (i := 509) (by decide +kernel)
theorem wc_X7_findBars : Cond.code yX7_findBars cX7_findBars 1 (some .int) ∈ BIG := List.mem_of_getElem? (i := 510) (by decide +kernel)
theorem wm_X7_171 : Cond.methodLink RX7 171 yX7_areTwo ∈ BIG := List.mem_of_getElem? (i := 511) (by decide +kernel)
theorem wi_X7_areTwo : Cond.instanceMethod yX7_areTwo ∈ BIG := List.mem_of_getElem? (i := 512) (by decide +kernel)
theorem wse_X7_areTwo : Cond.selects RX7 yX7_areTwo yX7_areTwo ∈ BIG := List.mem_of_getElem? (i := 513) (by decide +kernel)
theorem wc_X7_areTwo : Cond.code yX7_areTwo cX7_areTwo 2 (some .boolean) ∈ BIG := List.mem_of_getElem? (i := 514) (by decide +kernel)
theorem wm_X7_163 : Cond.methodLink RX7 163 yX7_isAgainst ∈ BIG := List.mem_of_getElem? (i := 515) (by decide +kernel)
theorem wi_X7_isAgainst : Cond.instanceMethod yX7_isAgainst ∈ BIG := List.mem_of_getElem? (i := 516) (by decide +kernel)
theorem wse_X7_isAgainst : Cond.selects RX7 yX7_isAgainst yX7_isAgainst ∈ BIG := List.mem_of_getElem? (i := 517) (by decide +kernel)
theorem wc_X7_isAgainst : Cond.code yX7_isAgainst cX7_isAgainst 14 (some .boolean) ∈ BIG := List.mem_of_getElem? (i := 518) (by decide +kernel)
theorem wm_X7_159 : Cond.methodLink RX7 159 yX7_summed ∈ BIG := List.mem_of_getElem? (i := 519) (by decide +kernel)
theorem wi_X7_summed : Cond.instanceMethod yX7_summed ∈ BIG := List.mem_of_getElem? (i := 520) (by decide +kernel)
theorem wse_X7_summed : Cond.selects RX7 yX7_summed yX7_summed ∈ BIG := List.mem_of_getElem? (i := 521) (by decide +kernel)
theorem wc_X7_summed : Cond.code yX7_summed cX7_summed 13 (some .long) ∈ BIG := List.mem_of_getElem? (i := 522) (by decide +kernel)
theorem wm_X7_174 : Cond.methodLink RX7 174 yX7_areThree ∈ BIG := List.mem_of_getElem? (i := 523) (by decide +kernel)
theorem wi_X7_areThree : Cond.instanceMethod yX7_areThree ∈ BIG := List.mem_of_getElem? (i := 524) (by decide +kernel)
theorem wse_X7_areThree : Cond.selects RX7 yX7_areThree yX7_areThree ∈ BIG := List.mem_of_getElem? (i := 525) (by decide +kernel)
theorem wc_X7_areThree : Cond.code yX7_areThree cX7_areThree 4 (some .boolean) ∈ BIG := List.mem_of_getElem? (i := 526) (by decide +kernel)
theorem wm_X7_167 : Cond.methodLink RX7 167 yX7_pair ∈ BIG := List.mem_of_getElem? (i := 527) (by decide +kernel)
theorem wi_X7_pair : Cond.instanceMethod yX7_pair ∈ BIG := List.mem_of_getElem? (i := 528) (by decide +kernel)
theorem wse_X7_pair : Cond.selects RX7 yX7_pair yX7_pair ∈ BIG := List.mem_of_getElem? (i := 529) (by decide +kernel)
theorem wc_X7_pair : Cond.code yX7_pair cX7_pair 5 (some .long) ∈ BIG := List.mem_of_getElem? (i := 530) (by decide +kernel)
theorem wm_X7_177 : Cond.methodLink RX7 177 yX7_areFour ∈ BIG := List.mem_of_getElem? (i := 531) (by decide +kernel)
theorem wi_X7_areFour : Cond.instanceMethod yX7_areFour ∈ BIG := List.mem_of_getElem? (i := 532) (by decide +kernel)
theorem wse_X7_areFour : Cond.selects RX7 yX7_areFour yX7_areFour ∈ BIG := List.mem_of_getElem? (i := 533) (by decide +kernel)
theorem wc_X7_areFour : Cond.code yX7_areFour cX7_areFour 9 (some .boolean) ∈ BIG := List.mem_of_getElem? (i := 534) (by decide +kernel)
theorem wm_L_71 : Cond.methodLink RL 71 yX6_fits ∈ BIG := List.mem_of_getElem? (i := 535) (by decide +kernel)
theorem wi_X6_fits : Cond.instanceMethod yX6_fits ∈ BIG := List.mem_of_getElem? (i := 536) (by decide +kernel)
theorem wse_X6_fits : Cond.selects RX6 yX6_fits yX6_fits ∈ BIG := List.mem_of_getElem? (i := 537) (by decide +kernel)
theorem wc_X6_fits : Cond.code yX6_fits cX6_fits 12 (some .int) ∈ BIG := List.mem_of_getElem? (i := 538) (by decide +kernel)
theorem wm_L_74 : Cond.methodLink RL 74 yX7_fits ∈ BIG := List.mem_of_getElem? (i := 539) (by decide +kernel)
theorem wi_X7_fits : Cond.instanceMethod yX7_fits ∈ BIG := List.mem_of_getElem? (i := 540) (by decide +kernel)
theorem wse_X7_fits : Cond.selects RX7 yX7_fits yX7_fits ∈ BIG := List.mem_of_getElem? (i := 541) (by decide +kernel)
theorem wc_X7_fits : Cond.code yX7_fits cX7_fits 5 (some .int) ∈ BIG := List.mem_of_getElem? (i := 542) (by decide +kernel)
theorem wk_X7_157 : Cond.constantLong RX7 157 (1000) ∈ BIG := List.mem_of_getElem? (i := 543) (by decide +kernel)
theorem wm_L_75 : Cond.methodLink RL 75 yX6_factor ∈ BIG := List.mem_of_getElem? (i := 544) (by decide +kernel)
theorem wi_X6_factor : Cond.instanceMethod yX6_factor ∈ BIG := List.mem_of_getElem? (i := 545) (by decide +kernel)
theorem wse_X6_factor : Cond.selects RX6 yX6_factor yX6_factor ∈ BIG := List.mem_of_getElem? (i := 546) (by decide +kernel)
theorem wc_X6_factor : Cond.code yX6_factor cX6_factor 2 (some .long) ∈ BIG := List.mem_of_getElem? (i := 547) (by decide +kernel)
theorem wm_X6_202 : Cond.methodLink RX6 202 yX5_leastFactor ∈ BIG := List.mem_of_getElem? (i := 548) (by decide +kernel)
theorem wi_X5_leastFactor : Cond.instanceMethod yX5_leastFactor ∈ BIG := List.mem_of_getElem? (i := 549) (by decide +kernel)
theorem wse_X5_leastFactor : Cond.selects RX5 yX5_leastFactor yX5_leastFactor ∈ BIG := List.mem_of_getElem? (i := 550) (by decide +kernel)
theorem wc_X5_leastFactor : Cond.code yX5_leastFactor cX5_leastFactor 7 (some .boolean) ∈ BIG := List.mem_of_getElem? (i := 551) (by decide +kernel)
theorem wf_X5_79 : Cond.fieldLink RX5 79 "StandingArch$Fraction" "above" "J" ∈ BIG := List.mem_of_getElem? (i := 552) (by decide +kernel)
theorem wf_X5_83 : Cond.fieldLink RX5 83 "StandingArch$Fraction" "below" "J" ∈ BIG := List.mem_of_getElem? (i := 553) (by decide +kernel)
theorem wm_X5_75 : Cond.methodLink RX5 75 yX5_straightFactor ∈ BIG := List.mem_of_getElem? (i := 554) (by decide +kernel)
theorem wi_X5_straightFactor : Cond.instanceMethod yX5_straightFactor ∈ BIG := List.mem_of_getElem? (i := 555) (by decide +kernel)
theorem wse_X5_straightFactor : Cond.selects RX5 yX5_straightFactor yX5_straightFactor ∈ BIG := List.mem_of_getElem? (i := 556) (by decide +kernel)
theorem wc_X5_straightFactor : Cond.code yX5_straightFactor cX5_straightFactor 5 (some .boolean) ∈ BIG := List.mem_of_getElem? (i := 557) (by decide +kernel)
theorem wm_L_79 : Cond.methodLink RL 79 yX7_factor ∈ BIG := List.mem_of_getElem? (i := 558) (by decide +kernel)
theorem wi_X7_factor : Cond.instanceMethod yX7_factor ∈ BIG := List.mem_of_getElem? (i := 559) (by decide +kernel)
theorem wse_X7_factor : Cond.selects RX7 yX7_factor yX7_factor ∈ BIG := List.mem_of_getElem? (i := 560) (by decide +kernel)
theorem wc_X7_factor : Cond.code yX7_factor cX7_factor 2 (some .long) ∈ BIG := List.mem_of_getElem? (i := 561) (by decide +kernel)
theorem wf_X7_194 : Cond.fieldLink RX7 194 "StandingArchModel" "factorAbove" "J" ∈ BIG := List.mem_of_getElem? (i := 562) (by decide +kernel)
theorem wf_X7_191 : Cond.fieldLink RX7 191 "StandingArchModel" "factorBelow" "J" ∈ BIG := List.mem_of_getElem? (i := 563) (by decide +kernel)
theorem wm_X7_201 : Cond.methodLink RX7 201 yX7_findFactor ∈ BIG := List.mem_of_getElem? (i := 564) (by decide +kernel)
theorem wi_X7_findFactor : Cond.instanceMethod yX7_findFactor ∈ BIG := List.mem_of_getElem? (i := 565) (by decide +kernel)
theorem wse_X7_findFactor : Cond.selects RX7 yX7_findFactor yX7_findFactor ∈ BIG := List.mem_of_getElem? (i := 566) (by decide +kernel)
theorem wc_X7_findFactor : Cond.code yX7_findFactor cX7_findFactor 7 (some .boolean) ∈ BIG := List.mem_of_getElem? (i := 567) (by decide +kernel)
theorem wm_X7_197 : Cond.methodLink RX7 197 yX7_meetFour ∈ BIG := List.mem_of_getElem? (i := 568) (by decide +kernel)
theorem wi_X7_meetFour : Cond.instanceMethod yX7_meetFour ∈ BIG := List.mem_of_getElem? (i := 569) (by decide +kernel)
theorem wse_X7_meetFour : Cond.selects RX7 yX7_meetFour yX7_meetFour ∈ BIG := List.mem_of_getElem? (i := 570) (by decide +kernel)
theorem wc_X7_meetFour : Cond.code yX7_meetFour cX7_meetFour 5 (some .boolean) ∈ BIG := List.mem_of_getElem? (i := 571) (by decide +kernel)
theorem wm_X7_187 : Cond.methodLink RX7 187 yX7_four ∈ BIG := List.mem_of_getElem? (i := 572) (by decide +kernel)
theorem wi_X7_four : Cond.instanceMethod yX7_four ∈ BIG := List.mem_of_getElem? (i := 573) (by decide +kernel)
theorem wse_X7_four : Cond.selects RX7 yX7_four yX7_four ∈ BIG := List.mem_of_getElem? (i := 574) (by decide +kernel)
theorem wc_X7_four : Cond.code yX7_four cX7_four 9 (some .long) ∈ BIG := List.mem_of_getElem? (i := 575) (by decide +kernel)
theorem wm_L_80 : Cond.methodLink RL 80 yX6_harms ∈ BIG := List.mem_of_getElem? (i := 576) (by decide +kernel)
theorem wi_X6_harms : Cond.instanceMethod yX6_harms ∈ BIG := List.mem_of_getElem? (i := 577) (by decide +kernel)
theorem wse_X6_harms : Cond.selects RX6 yX6_harms yX6_harms ∈ BIG := List.mem_of_getElem? (i := 578) (by decide +kernel)
theorem wc_X6_harms : Cond.code yX6_harms cX6_harms 4 (some .int) ∈ BIG := List.mem_of_getElem? (i := 579) (by decide +kernel)
theorem wm_X6_205 : Cond.methodLink RX6 205 arraycopyName ∈ BIG := List.mem_of_getElem? (i := 580) (by decide +kernel)
theorem wna_arraycopy : Cond.native arraycopyName ∈ BIG := List.mem_of_getElem? (i := 581) (by decide +kernel)
theorem wst_arraycopy : Cond.static arraycopyName ∈ BIG := List.mem_of_getElem? (i := 582) (by decide +kernel)
theorem win_System : Cond.initialized "java/lang/System" ∈ BIG := List.mem_of_getElem? (i := 583) (by decide +kernel)
theorem wm_X6_211 : Cond.methodLink RX6 211 yX2_isAbove ∈ BIG := List.mem_of_getElem? (i := 584) (by decide +kernel)
theorem wi_X2_isAbove : Cond.instanceMethod yX2_isAbove ∈ BIG := List.mem_of_getElem? (i := 585) (by decide +kernel)
theorem wse_X2_isAbove : Cond.selects RX2 yX2_isAbove yX2_isAbove ∈ BIG := List.mem_of_getElem? (i := 586) (by decide +kernel)
theorem wc_X2_isAbove : Cond.code yX2_isAbove cX2_isAbove 2 (some .boolean) ∈ BIG := List.mem_of_getElem? (i := 587) (by decide +kernel)
theorem wm_L_83 : Cond.methodLink RL 83 yX7_harms ∈ BIG := List.mem_of_getElem? (i := 588) (by decide +kernel)
theorem wi_X7_harms : Cond.instanceMethod yX7_harms ∈ BIG := List.mem_of_getElem? (i := 589) (by decide +kernel)
theorem wse_X7_harms : Cond.selects RX7 yX7_harms yX7_harms ∈ BIG := List.mem_of_getElem? (i := 590) (by decide +kernel)
theorem wc_X7_harms : Cond.code yX7_harms cX7_harms 9 (some .int) ∈ BIG := List.mem_of_getElem? (i := 591) (by decide +kernel)
theorem wm_L_84 : Cond.methodLink RL 84 yX6_falls ∈ BIG := List.mem_of_getElem? (i := 592) (by decide +kernel)
theorem wi_X6_falls : Cond.instanceMethod yX6_falls ∈ BIG := List.mem_of_getElem? (i := 593) (by decide +kernel)
theorem wse_X6_falls : Cond.selects RX6 yX6_falls yX6_falls ∈ BIG := List.mem_of_getElem? (i := 594) (by decide +kernel)
theorem wc_X6_falls : Cond.code yX6_falls cX6_falls 5 (some .int) ∈ BIG := List.mem_of_getElem? (i := 595) (by decide +kernel)
theorem wm_L_87 : Cond.methodLink RL 87 yX7_falls ∈ BIG := List.mem_of_getElem? (i := 596) (by decide +kernel)
theorem wi_X7_falls : Cond.instanceMethod yX7_falls ∈ BIG := List.mem_of_getElem? (i := 597) (by decide +kernel)
theorem wse_X7_falls : Cond.selects RX7 yX7_falls yX7_falls ∈ BIG := List.mem_of_getElem? (i := 598) (by decide +kernel)
theorem wc_X7_falls : Cond.code yX7_falls cX7_falls 5 (some .int) ∈ BIG := List.mem_of_getElem? (i := 599) (by decide +kernel)
theorem wm_L_88 : Cond.methodLink RL 88 yX6_spread ∈ BIG := List.mem_of_getElem? (i := 600) (by decide +kernel)
theorem wi_X6_spread : Cond.instanceMethod yX6_spread ∈ BIG := List.mem_of_getElem? (i := 601) (by decide +kernel)
theorem wse_X6_spread : Cond.selects RX6 yX6_spread yX6_spread ∈ BIG := List.mem_of_getElem? (i := 602) (by decide +kernel)
theorem wc_X6_spread : Cond.code yX6_spread cX6_spread 3 (some .int) ∈ BIG := List.mem_of_getElem? (i := 603) (by decide +kernel)
theorem wm_L_91 : Cond.methodLink RL 91 yX7_spread ∈ BIG := List.mem_of_getElem? (i := 604) (by decide +kernel)
theorem wi_X7_spread : Cond.instanceMethod yX7_spread ∈ BIG := List.mem_of_getElem? (i := 605) (by decide +kernel)
theorem wse_X7_spread : Cond.selects RX7 yX7_spread yX7_spread ∈ BIG := List.mem_of_getElem? (i := 606) (by decide +kernel)
theorem wc_X7_spread : Cond.code yX7_spread cX7_spread 2 (some .int) ∈ BIG := List.mem_of_getElem? (i := 607) (by decide +kernel)
theorem wk_X7_204 : Cond.constantLong RX7 204 (-10) ∈ BIG := List.mem_of_getElem? (i := 608) (by decide +kernel)
theorem gv_X6_59 : GoodIn BIG (wsV RX6 59 RX0 yX0_renew (Cond.code yX0_renew cX0_renew 3 (none) :: BIG)) := good_V wm_X6_59 wi_X0_renew wse_X0_renew win_X0 wc_X0_renew
theorem gv_X7_51 : GoodIn BIG (wsV RX7 51 RX7 yX7_begin (Cond.code yX7_begin cX7_begin 3 (none) :: BIG)) := good_V wm_X7_51 wi_X7_begin wse_X7_begin win_X7 wc_X7_begin
theorem gv_L_13 : GoodIn BIG (wsV RL 13 RX6 yX6_joints (Cond.code yX6_joints cX6_joints 2 ((some .int)) :: BIG)) := good_V wm_L_13 wi_X6_joints wse_X6_joints win_X6 wc_X6_joints
theorem gv_L_17 : GoodIn BIG (wsV RL 17 RX7 yX7_joints (Cond.code yX7_joints cX7_joints 2 ((some .int)) :: BIG)) := good_V wm_L_17 wi_X7_joints wse_X7_joints win_X7 wc_X7_joints
theorem gs_X7_59 : GoodIn BIG (wsS RX7 59 yX7_in (Cond.code yX7_in cX7_in 6 ((some .boolean)) :: BIG)) := good_S wm_X7_59 wst_X7_in win_X7 wc_X7_in
theorem gv_L_18 : GoodIn BIG (wsV RL 18 RX6 yX6_at (Cond.code yX6_at cX6_at 4 ((some .int)) :: BIG)) := good_V wm_L_18 wi_X6_at wse_X6_at win_X6 wc_X6_at
theorem gv_L_22 : GoodIn BIG (wsV RL 22 RX7 yX7_at (Cond.code yX7_at cX7_at 4 ((some .int)) :: BIG)) := good_V wm_L_22 wi_X7_at wse_X7_at win_X7 wc_X7_at
theorem gv_L_23 : GoodIn BIG (wsV RL 23 RX6 yX6_edges (Cond.code yX6_edges cX6_edges 4 ((some .int)) :: BIG)) := good_V wm_L_23 wi_X6_edges wse_X6_edges win_X6 wc_X6_edges
theorem gv_X6_71 : GoodIn BIG (wsV RX6 71 RX0 yX0_hasJoint (Cond.code yX0_hasJoint cX0_hasJoint 2 ((some .boolean)) :: BIG)) := good_V wm_X6_71 wi_X0_hasJoint wse_X0_hasJoint win_X0 wc_X0_hasJoint
theorem gs_X6_75 : GoodIn BIG (wsS RX6 75 yX6_areEdges (Cond.code yX6_areEdges cX6_areEdges 2 ((some .boolean)) :: BIG)) := good_S wm_X6_75 wst_X6_areEdges win_X6 wc_X6_areEdges
theorem gs_X6_196 : GoodIn BIG (wsS RX6 196 yX6_isHeight (Cond.code yX6_isHeight cX6_isHeight 1 ((some .boolean)) :: BIG)) := good_S wm_X6_196 wst_X6_isHeight win_X6 wc_X6_isHeight
theorem gv_L_27 : GoodIn BIG (wsV RL 27 RX7 yX7_edges (Cond.code yX7_edges cX7_edges 4 ((some .int)) :: BIG)) := good_V wm_L_27 wi_X7_edges wse_X7_edges win_X7 wc_X7_edges
theorem gv_L_28 : GoodIn BIG (wsV RL 28 RX6 yX6_load (Cond.code yX6_load cX6_load 4 ((some .int)) :: BIG)) := good_V wm_L_28 wi_X6_load wse_X6_load win_X6 wc_X6_load
theorem gv_X6_85 : GoodIn BIG (wsV RX6 85 RX0 yX0_hasInnerJoint (Cond.code yX0_hasInnerJoint cX0_hasInnerJoint 2 ((some .boolean)) :: BIG)) := good_V wm_X6_85 wi_X0_hasInnerJoint wse_X0_hasInnerJoint win_X0 wc_X0_hasInnerJoint
theorem gs_X6_88 : GoodIn BIG (wsS RX6 88 yX6_isLoad (Cond.code yX6_isLoad cX6_isLoad 1 ((some .boolean)) :: BIG)) := good_S wm_X6_88 wst_X6_isLoad win_X6 wc_X6_isLoad
theorem gv_L_31 : GoodIn BIG (wsV RL 31 RX7 yX7_load (Cond.code yX7_load cX7_load 4 ((some .int)) :: BIG)) := good_V wm_L_31 wi_X7_load wse_X7_load win_X7 wc_X7_load
theorem gv_L_32 : GoodIn BIG (wsV RL 32 RX6 yX6_sheet (Cond.code yX6_sheet cX6_sheet 4 ((some .int)) :: BIG)) := good_V wm_L_32 wi_X6_sheet wse_X6_sheet win_X6 wc_X6_sheet
theorem gs_X6_94 : GoodIn BIG (wsS RX6 94 yX6_isSheet (Cond.code yX6_isSheet cX6_isSheet 1 ((some .boolean)) :: BIG)) := good_S wm_X6_94 wst_X6_isSheet win_X6 wc_X6_isSheet
theorem gs_X6_97 : GoodIn BIG (wsS RX6 97 yX6_isLane (Cond.code yX6_isLane cX6_isLane 1 ((some .boolean)) :: BIG)) := good_S wm_X6_97 wst_X6_isLane win_X6 wc_X6_isLane
theorem gv_X6_100 : GoodIn BIG (wsV RX6 100 RX4 yX4_hold (Cond.code yX4_hold cX4_hold 3 (none) :: BIG)) := good_V wm_X6_100 wi_X4_hold wse_X4_hold win_X4 wc_X4_hold
theorem gv_L_35 : GoodIn BIG (wsV RL 35 RX7 yX7_sheet (Cond.code yX7_sheet cX7_sheet 5 ((some .int)) :: BIG)) := good_V wm_L_35 wi_X7_sheet wse_X7_sheet win_X7 wc_X7_sheet
theorem gs_X7_71 : GoodIn BIG (wsS RX7 71 yX7_isSheet (Cond.code yX7_isSheet cX7_isSheet 2 ((some .boolean)) :: BIG)) := good_S wm_X7_71 wst_X7_isSheet win_X7 wc_X7_isSheet
theorem gv_L_36 : GoodIn BIG (wsV RL 36 RX6 yX6_drop (Cond.code yX6_drop cX6_drop 2 ((some .int)) :: BIG)) := good_V wm_L_36 wi_X6_drop wse_X6_drop win_X6 wc_X6_drop
theorem gv_L_39 : GoodIn BIG (wsV RL 39 RX7 yX7_drop (Cond.code yX7_drop cX7_drop 2 ((some .int)) :: BIG)) := good_V wm_L_39 wi_X7_drop wse_X7_drop win_X7 wc_X7_drop
theorem gv_L_40 : GoodIn BIG (wsV RL 40 RX6 yX6_item (Cond.code yX6_item cX6_item 7 ((some .int)) :: BIG)) := good_V wm_L_40 wi_X6_item wse_X6_item win_X6 wc_X6_item
theorem gv_X6_111 : GoodIn BIG (wsV RX6 111 RX6 yX6_refusalOfRow (Cond.code yX6_refusalOfRow cX6_refusalOfRow 3 ((some .int)) :: BIG)) := good_V wm_X6_111 wi_X6_refusalOfRow wse_X6_refusalOfRow win_X6 wc_X6_refusalOfRow
theorem gv_L_44 : GoodIn BIG (wsV RL 44 RX7 yX7_item (Cond.code yX7_item cX7_item 5 ((some .int)) :: BIG)) := good_V wm_L_44 wi_X7_item wse_X7_item win_X7 wc_X7_item
theorem gv_L_45 : GoodIn BIG (wsV RL 45 RX6 yX6_read (Cond.code yX6_read cX6_read 6 ((some .int)) :: BIG)) := good_V wm_L_45 wi_X6_read wse_X6_read win_X6 wc_X6_read
theorem gv_X6_118 : GoodIn BIG (wsV RX6 118 RX0 yX0_mayTake (Cond.code yX0_mayTake cX0_mayTake 7 ((some .boolean)) :: BIG)) := good_V wm_X6_118 wi_X0_mayTake wse_X0_mayTake win_X0 wc_X0_mayTake
theorem gv_X6_122 : GoodIn BIG (wsV RX6 122 RX0 yX0_take (Cond.code yX0_take cX0_take 5 (none) :: BIG)) := good_V wm_X6_122 wi_X0_take wse_X0_take win_X0 wc_X0_take
theorem gv_X0_39 : GoodIn BIG (wsV RX0 39 RX0 yX0_hasInnerJoint (Cond.code yX0_hasInnerJoint cX0_hasInnerJoint 2 ((some .boolean)) :: BIG)) := good_V wm_X0_39 wi_X0_hasInnerJoint wse_X0_hasInnerJoint win_X0 wc_X0_hasInnerJoint
theorem gv_L_48 : GoodIn BIG (wsV RL 48 RX7 yX7_read (Cond.code yX7_read cX7_read 9 ((some .int)) :: BIG)) := good_V wm_L_48 wi_X7_read wse_X7_read win_X7 wc_X7_read
theorem gv_L_49 : GoodIn BIG (wsV RL 49 RX6 yX6_told (Cond.code yX6_told cX6_told 3 ((some .int)) :: BIG)) := good_V wm_L_49 wi_X6_told wse_X6_told win_X6 wc_X6_told
theorem gv_X6_127 : GoodIn BIG (wsV RX6 127 RX0 yX0_weigh (Cond.code yX0_weigh cX0_weigh 7 (none) :: BIG)) := good_V wm_X6_127 wi_X0_weigh wse_X0_weigh win_X0 wc_X0_weigh
theorem gv_X0_42 : GoodIn BIG (wsV RX0 42 RX0 yX0_span (Cond.code yX0_span cX0_span 1 ((some .int)) :: BIG)) := good_V wm_X0_42 wi_X0_span wse_X0_span win_X0 wc_X0_span
theorem gv_L_52 : GoodIn BIG (wsV RL 52 RX7 yX7_told (Cond.code yX7_told cX7_told 3 ((some .int)) :: BIG)) := good_V wm_L_52 wi_X7_told wse_X7_told win_X7 wc_X7_told
theorem gv_X7_78 : GoodIn BIG (wsV RX7 78 RX7 yX7_momentAt (Cond.code yX7_momentAt cX7_momentAt 4 ((some .int)) :: BIG)) := good_V wm_X7_78 wi_X7_momentAt wse_X7_momentAt win_X7 wc_X7_momentAt
theorem gv_L_53 : GoodIn BIG (wsV RL 53 RX6 yX6_stands (Cond.code yX6_stands cX6_stands 1 ((some .int)) :: BIG)) := good_V wm_L_53 wi_X6_stands wse_X6_stands win_X6 wc_X6_stands
theorem gv_X6_134 : GoodIn BIG (wsV RX6 134 RX6 yX6_holdsUnder (Cond.code yX6_holdsUnder cX6_holdsUnder 2 ((some .boolean)) :: BIG)) := good_V wm_X6_134 wi_X6_holdsUnder wse_X6_holdsUnder win_X6 wc_X6_holdsUnder
theorem gv_X6_199 : GoodIn BIG (wsV RX6 199 RX5 yX5_gather (Cond.code yX5_gather cX5_gather 9 (none) :: BIG)) := good_V wm_X6_199 wi_X5_gather wse_X5_gather win_X5 wc_X5_gather
theorem gv_X5_23 : GoodIn BIG (wsV RX5 23 RX0 yX0_weigh (Cond.code yX0_weigh cX0_weigh 7 (none) :: BIG)) := good_V wm_X5_23 wi_X0_weigh wse_X0_weigh win_X0 wc_X0_weigh
theorem gv_X5_43 : GoodIn BIG (wsV RX5 43 RX0 yX0_rise (Cond.code yX0_rise cX0_rise 8 ((some .long)) :: BIG)) := good_V wm_X5_43 wi_X0_rise wse_X0_rise win_X0 wc_X0_rise
theorem gv_X5_47 : GoodIn BIG (wsV RX5 47 RX0 yX0_bend (Cond.code yX0_bend cX0_bend 4 ((some .long)) :: BIG)) := good_V wm_X5_47 wi_X0_bend wse_X0_bend win_X0 wc_X0_bend
theorem gv_X0_46 : GoodIn BIG (wsV RX0 46 RX0 yX0_rise (Cond.code yX0_rise cX0_rise 8 ((some .long)) :: BIG)) := good_V wm_X0_46 wi_X0_rise wse_X0_rise win_X0 wc_X0_rise
theorem gv_X6_214 : GoodIn BIG (wsV RX6 214 RX5 yX5_hold (Cond.code yX5_hold cX5_hold 2 ((some .boolean)) :: BIG)) := good_V wm_X6_214 wi_X5_hold wse_X5_hold win_X5 wc_X5_hold
theorem gv_X5_56 : GoodIn BIG (wsV RX5 56 RX5 yX5_tightestLeast (Cond.code yX5_tightestLeast cX5_tightestLeast 7 ((some .int)) :: BIG)) := good_V wm_X5_56 wi_X5_tightestLeast wse_X5_tightestLeast win_X5 wc_X5_tightestLeast
theorem gv_X5_86 : GoodIn BIG (wsV RX5 86 RX5 yX5_least (Cond.code yX5_least cX5_least 6 ((some .long)) :: BIG)) := good_V wm_X5_86 wi_X5_least wse_X5_least win_X5 wc_X5_least
theorem gv_X5_60 : GoodIn BIG (wsV RX5 60 RX5 yX5_tightestMost (Cond.code yX5_tightestMost cX5_tightestMost 7 ((some .int)) :: BIG)) := good_V wm_X5_60 wi_X5_tightestMost wse_X5_tightestMost win_X5 wc_X5_tightestMost
theorem gv_X5_90 : GoodIn BIG (wsV RX5 90 RX5 yX5_most (Cond.code yX5_most cX5_most 6 ((some .long)) :: BIG)) := good_V wm_X5_90 wi_X5_most wse_X5_most win_X5 wc_X5_most
theorem gv_X5_63 : GoodIn BIG (wsV RX5 63 RX5 yX5_bars (Cond.code yX5_bars cX5_bars 7 ((some .boolean)) :: BIG)) := good_V wm_X5_63 wi_X5_bars wse_X5_bars win_X5 wc_X5_bars
theorem gv_L_57 : GoodIn BIG (wsV RL 57 RX7 yX7_stands (Cond.code yX7_stands cX7_stands 1 ((some .int)) :: BIG)) := good_V wm_L_57 wi_X7_stands wse_X7_stands win_X7 wc_X7_stands
theorem gv_X7_141 : GoodIn BIG (wsV RX7 141 RX7 yX7_findLines (Cond.code yX7_findLines cX7_findLines 4 (none) :: BIG)) := good_V wm_X7_141 wi_X7_findLines wse_X7_findLines win_X7 wc_X7_findLines
theorem gv_X7_110 : GoodIn BIG (wsV RX7 110 RX7 yX7_findRows (Cond.code yX7_findRows cX7_findRows 15 (none) :: BIG)) := good_V wm_X7_110 wi_X7_findRows wse_X7_findRows win_X7 wc_X7_findRows
theorem gv_X7_82 : GoodIn BIG (wsV RX7 82 RX7 yX7_setRow (Cond.code yX7_setRow cX7_setRow 12 (none) :: BIG)) := good_V wm_X7_82 wi_X7_setRow wse_X7_setRow win_X7 wc_X7_setRow
theorem gv_X7_118 : GoodIn BIG (wsV RX7 118 RX7 yX7_meetThree (Cond.code yX7_meetThree cX7_meetThree 4 ((some .boolean)) :: BIG)) := good_V wm_X7_118 wi_X7_meetThree wse_X7_meetThree win_X7 wc_X7_meetThree
theorem gv_X7_95 : GoodIn BIG (wsV RX7 95 RX7 yX7_three (Cond.code yX7_three cX7_three 13 ((some .long)) :: BIG)) := good_V wm_X7_95 wi_X7_three wse_X7_three win_X7 wc_X7_three
theorem gv_X7_99 : GoodIn BIG (wsV RX7 99 RX7 yX7_turnSpot (Cond.code yX7_turnSpot cX7_turnSpot 2 (none) :: BIG)) := good_V wm_X7_99 wi_X7_turnSpot wse_X7_turnSpot win_X7 wc_X7_turnSpot
theorem gv_X7_102 : GoodIn BIG (wsV RX7 102 RX7 yX7_keepsAll (Cond.code yX7_keepsAll cX7_keepsAll 4 ((some .boolean)) :: BIG)) := good_V wm_X7_102 wi_X7_keepsAll wse_X7_keepsAll win_X7 wc_X7_keepsAll
theorem gv_X7_122 : GoodIn BIG (wsV RX7 122 RX7 yX7_takeSpot (Cond.code yX7_takeSpot cX7_takeSpot 12 (none) :: BIG)) := good_V wm_X7_122 wi_X7_takeSpot wse_X7_takeSpot win_X7 wc_X7_takeSpot
theorem gs_X7_125 : GoodIn BIG (wsS RX7 125 yX7_common (Cond.code yX7_common cX7_common 10 ((some .long)) :: BIG)) := good_S wm_X7_125 wst_X7_common win_X7 wc_X7_common
theorem gs_X7_131 : GoodIn BIG (wsS RX7 131 yX7_compare (Cond.code yX7_compare cX7_compare 25 ((some .int)) :: BIG)) := good_S wm_X7_131 wst_X7_compare win_X7 wc_X7_compare
theorem gs_X7_106 : GoodIn BIG (wsS RX7 106 yX7_down (Cond.code yX7_down cX7_down 6 ((some .long)) :: BIG)) := good_S wm_X7_106 wst_X7_down win_X7 wc_X7_down
theorem gv_L_58 : GoodIn BIG (wsV RL 58 RX6 yX6_thrust (Cond.code yX6_thrust cX6_thrust 4 ((some .long)) :: BIG)) := good_V wm_L_58 wi_X6_thrust wse_X6_thrust win_X6 wc_X6_thrust
theorem gs_X6_138 : GoodIn BIG (wsS RX6 138 yX6_isChoice (Cond.code yX6_isChoice cX6_isChoice 1 ((some .boolean)) :: BIG)) := good_S wm_X6_138 wst_X6_isChoice win_X6 wc_X6_isChoice
theorem gv_X6_145 : GoodIn BIG (wsV RX6 145 RX5 yX5_greatestPush (Cond.code yX5_greatestPush cX5_greatestPush 3 ((some .boolean)) :: BIG)) := good_V wm_X6_145 wi_X5_greatestPush wse_X5_greatestPush win_X5 wc_X5_greatestPush
theorem gv_X5_69 : GoodIn BIG (wsV RX5 69 RX2 yX2_become (Cond.code yX2_become cX2_become 7 (none) :: BIG)) := good_V wm_X5_69 wi_X2_become wse_X2_become win_X2 wc_X2_become
theorem gs_X2_22 : GoodIn BIG (wsS RX2 22 yX2_commonDivisor (Cond.code yX2_commonDivisor cX2_commonDivisor 7 ((some .long)) :: BIG)) := good_S wm_X2_22 wst_X2_commonDivisor win_X2 wc_X2_commonDivisor
theorem gv_X6_149 : GoodIn BIG (wsV RX6 149 RX5 yX5_leastPush (Cond.code yX5_leastPush cX5_leastPush 3 ((some .boolean)) :: BIG)) := good_V wm_X6_149 wi_X5_leastPush wse_X5_leastPush win_X5 wc_X5_leastPush
theorem gv_X6_161 : GoodIn BIG (wsV RX6 161 RX0 yX0_span (Cond.code yX0_span cX0_span 1 ((some .int)) :: BIG)) := good_V wm_X6_161 wi_X0_span wse_X0_span win_X0 wc_X0_span
theorem gv_X6_165 : GoodIn BIG (wsV RX6 165 RX2 yX2_become (Cond.code yX2_become cX2_become 7 (none) :: BIG)) := good_V wm_X6_165 wi_X2_become wse_X2_become win_X2 wc_X2_become
theorem gv_X6_169 : GoodIn BIG (wsV RX6 169 RX2 yX2_part (Cond.code yX2_part cX2_part 2 ((some .long)) :: BIG)) := good_V wm_X6_169 wi_X2_part wse_X2_part win_X2 wc_X2_part
theorem gv_L_62 : GoodIn BIG (wsV RL 62 RX7 yX7_thrust (Cond.code yX7_thrust cX7_thrust 9 ((some .long)) :: BIG)) := good_V wm_L_62 wi_X7_thrust wse_X7_thrust win_X7 wc_X7_thrust
theorem gv_X7_146 : GoodIn BIG (wsV RX7 146 RX7 yX7_isLoose (Cond.code yX7_isLoose cX7_isLoose 3 ((some .boolean)) :: BIG)) := good_V wm_X7_146 wi_X7_isLoose wse_X7_isLoose win_X7 wc_X7_isLoose
theorem gv_L_63 : GoodIn BIG (wsV RL 63 RX6 yX6_height (Cond.code yX6_height cX6_height 3 ((some .long)) :: BIG)) := good_V wm_L_63 wi_X6_height wse_X6_height win_X6 wc_X6_height
theorem gv_X6_179 : GoodIn BIG (wsV RX6 179 RX3 yX3_lay (Cond.code yX3_lay cX3_lay 2 (none) :: BIG)) := good_V wm_X6_179 wi_X3_lay wse_X3_lay win_X3 wc_X3_lay
theorem gv_X3_34 : GoodIn BIG (wsV RX3 34 RX3 yX3_findLeastStart (Cond.code yX3_findLeastStart cX3_findLeastStart 7 (none) :: BIG)) := good_V wm_X3_34 wi_X3_findLeastStart wse_X3_findLeastStart win_X3 wc_X3_findLeastStart
theorem gv_X3_40 : GoodIn BIG (wsV RX3 40 RX3 yX3_straightLow (Cond.code yX3_straightLow cX3_straightLow 2 ((some .long)) :: BIG)) := good_V wm_X3_40 wi_X3_straightLow wse_X3_straightLow win_X3 wc_X3_straightLow
theorem gv_X3_57 : GoodIn BIG (wsV RX3 57 RX3 yX3_straightHigh (Cond.code yX3_straightHigh cX3_straightHigh 2 ((some .long)) :: BIG)) := good_V wm_X3_57 wi_X3_straightHigh wse_X3_straightHigh win_X3 wc_X3_straightHigh
theorem gv_X3_37 : GoodIn BIG (wsV RX3 37 RX3 yX3_findLeastSlope (Cond.code yX3_findLeastSlope cX3_findLeastSlope 6 (none) :: BIG)) := good_V wm_X3_37 wi_X3_findLeastSlope wse_X3_findLeastSlope win_X3 wc_X3_findLeastSlope
theorem gv_X3_63 : GoodIn BIG (wsV RX3 63 RX0 yX0_span (Cond.code yX0_span cX0_span 1 ((some .int)) :: BIG)) := good_V wm_X3_63 wi_X0_span wse_X0_span win_X0 wc_X0_span
theorem gv_X6_183 : GoodIn BIG (wsV RX6 183 RX3 yX3_heightInto (Cond.code yX3_heightInto cX3_heightInto 7 (none) :: BIG)) := good_V wm_X6_183 wi_X3_heightInto wse_X3_heightInto win_X3 wc_X3_heightInto
theorem gv_X3_70 : GoodIn BIG (wsV RX3 70 RX2 yX2_become (Cond.code yX2_become cX2_become 7 (none) :: BIG)) := good_V wm_X3_70 wi_X2_become wse_X2_become win_X2 wc_X2_become
theorem gv_L_66 : GoodIn BIG (wsV RL 66 RX7 yX7_height (Cond.code yX7_height cX7_height 9 ((some .long)) :: BIG)) := good_V wm_L_66 wi_X7_height wse_X7_height win_X7 wc_X7_height
theorem gv_L_67 : GoodIn BIG (wsV RL 67 RX6 yX6_bar (Cond.code yX6_bar cX6_bar 2 ((some .int)) :: BIG)) := good_V wm_L_67 wi_X6_bar wse_X6_bar win_X6 wc_X6_bar
theorem gv_X6_187 : GoodIn BIG (wsV RX6 187 RX1 yX1_find (Cond.code yX1_find cX1_find 1 (none) :: BIG)) := good_V wm_X6_187 wi_X1_find wse_X1_find win_X1 wc_X1_find
theorem gv_X1_23 : GoodIn BIG (wsV RX1 23 RX1 yX1_findFirst (Cond.code yX1_findFirst cX1_findFirst 6 ((some .boolean)) :: BIG)) := good_V wm_X1_23 wi_X1_findFirst wse_X1_findFirst win_X1 wc_X1_findFirst
theorem gv_X1_32 : GoodIn BIG (wsV RX1 32 RX1 yX1_barsThree (Cond.code yX1_barsThree cX1_barsThree 5 ((some .boolean)) :: BIG)) := good_V wm_X1_32 wi_X1_barsThree wse_X1_barsThree win_X1 wc_X1_barsThree
theorem gv_X1_39 : GoodIn BIG (wsV RX1 39 RX0 yX0_bend (Cond.code yX0_bend cX0_bend 4 ((some .long)) :: BIG)) := good_V wm_X1_39 wi_X0_bend wse_X0_bend win_X0 wc_X0_bend
theorem gv_X1_43 : GoodIn BIG (wsV RX1 43 RX1 yX1_isBeyondChord (Cond.code yX1_isBeyondChord cX1_isBeyondChord 5 ((some .boolean)) :: BIG)) := good_V wm_X1_43 wi_X1_isBeyondChord wse_X1_isBeyondChord win_X1 wc_X1_isBeyondChord
theorem gv_X1_60 : GoodIn BIG (wsV RX1 60 RX0 yX0_rise (Cond.code yX0_rise cX0_rise 8 ((some .long)) :: BIG)) := good_V wm_X1_60 wi_X0_rise wse_X0_rise win_X0 wc_X0_rise
theorem gv_X1_46 : GoodIn BIG (wsV RX1 46 RX1 yX1_keep (Cond.code yX1_keep cX1_keep 5 (none) :: BIG)) := good_V wm_X1_46 wi_X1_keep wse_X1_keep win_X1 wc_X1_keep
theorem gv_X1_36 : GoodIn BIG (wsV RX1 36 RX1 yX1_barsFour (Cond.code yX1_barsFour cX1_barsFour 6 ((some .boolean)) :: BIG)) := good_V wm_X1_36 wi_X1_barsFour wse_X1_barsFour win_X1 wc_X1_barsFour
theorem gv_X1_50 : GoodIn BIG (wsV RX1 50 RX1 yX1_isCrossed (Cond.code yX1_isCrossed cX1_isCrossed 10 ((some .boolean)) :: BIG)) := good_V wm_X1_50 wi_X1_isCrossed wse_X1_isCrossed win_X1 wc_X1_isCrossed
theorem gv_L_70 : GoodIn BIG (wsV RL 70 RX7 yX7_bar (Cond.code yX7_bar cX7_bar 2 ((some .int)) :: BIG)) := good_V wm_L_70 wi_X7_bar wse_X7_bar win_X7 wc_X7_bar
theorem gv_X7_180 : GoodIn BIG (wsV RX7 180 RX7 yX7_findBars (Cond.code yX7_findBars cX7_findBars 1 ((some .int)) :: BIG)) := good_V wm_X7_180 wi_X7_findBars wse_X7_findBars win_X7 wc_X7_findBars
theorem gv_X7_171 : GoodIn BIG (wsV RX7 171 RX7 yX7_areTwo (Cond.code yX7_areTwo cX7_areTwo 2 ((some .boolean)) :: BIG)) := good_V wm_X7_171 wi_X7_areTwo wse_X7_areTwo win_X7 wc_X7_areTwo
theorem gv_X7_163 : GoodIn BIG (wsV RX7 163 RX7 yX7_isAgainst (Cond.code yX7_isAgainst cX7_isAgainst 14 ((some .boolean)) :: BIG)) := good_V wm_X7_163 wi_X7_isAgainst wse_X7_isAgainst win_X7 wc_X7_isAgainst
theorem gv_X7_159 : GoodIn BIG (wsV RX7 159 RX7 yX7_summed (Cond.code yX7_summed cX7_summed 13 ((some .long)) :: BIG)) := good_V wm_X7_159 wi_X7_summed wse_X7_summed win_X7 wc_X7_summed
theorem gv_X7_174 : GoodIn BIG (wsV RX7 174 RX7 yX7_areThree (Cond.code yX7_areThree cX7_areThree 4 ((some .boolean)) :: BIG)) := good_V wm_X7_174 wi_X7_areThree wse_X7_areThree win_X7 wc_X7_areThree
theorem gv_X7_167 : GoodIn BIG (wsV RX7 167 RX7 yX7_pair (Cond.code yX7_pair cX7_pair 5 ((some .long)) :: BIG)) := good_V wm_X7_167 wi_X7_pair wse_X7_pair win_X7 wc_X7_pair
theorem gv_X7_177 : GoodIn BIG (wsV RX7 177 RX7 yX7_areFour (Cond.code yX7_areFour cX7_areFour 9 ((some .boolean)) :: BIG)) := good_V wm_X7_177 wi_X7_areFour wse_X7_areFour win_X7 wc_X7_areFour
theorem gv_L_71 : GoodIn BIG (wsV RL 71 RX6 yX6_fits (Cond.code yX6_fits cX6_fits 12 ((some .int)) :: BIG)) := good_V wm_L_71 wi_X6_fits wse_X6_fits win_X6 wc_X6_fits
theorem gv_L_74 : GoodIn BIG (wsV RL 74 RX7 yX7_fits (Cond.code yX7_fits cX7_fits 5 ((some .int)) :: BIG)) := good_V wm_L_74 wi_X7_fits wse_X7_fits win_X7 wc_X7_fits
theorem gv_L_75 : GoodIn BIG (wsV RL 75 RX6 yX6_factor (Cond.code yX6_factor cX6_factor 2 ((some .long)) :: BIG)) := good_V wm_L_75 wi_X6_factor wse_X6_factor win_X6 wc_X6_factor
theorem gv_X6_202 : GoodIn BIG (wsV RX6 202 RX5 yX5_leastFactor (Cond.code yX5_leastFactor cX5_leastFactor 7 ((some .boolean)) :: BIG)) := good_V wm_X6_202 wi_X5_leastFactor wse_X5_leastFactor win_X5 wc_X5_leastFactor
theorem gv_X5_75 : GoodIn BIG (wsV RX5 75 RX5 yX5_straightFactor (Cond.code yX5_straightFactor cX5_straightFactor 5 ((some .boolean)) :: BIG)) := good_V wm_X5_75 wi_X5_straightFactor wse_X5_straightFactor win_X5 wc_X5_straightFactor
theorem gv_L_79 : GoodIn BIG (wsV RL 79 RX7 yX7_factor (Cond.code yX7_factor cX7_factor 2 ((some .long)) :: BIG)) := good_V wm_L_79 wi_X7_factor wse_X7_factor win_X7 wc_X7_factor
theorem gv_X7_201 : GoodIn BIG (wsV RX7 201 RX7 yX7_findFactor (Cond.code yX7_findFactor cX7_findFactor 7 ((some .boolean)) :: BIG)) := good_V wm_X7_201 wi_X7_findFactor wse_X7_findFactor win_X7 wc_X7_findFactor
theorem gv_X7_197 : GoodIn BIG (wsV RX7 197 RX7 yX7_meetFour (Cond.code yX7_meetFour cX7_meetFour 5 ((some .boolean)) :: BIG)) := good_V wm_X7_197 wi_X7_meetFour wse_X7_meetFour win_X7 wc_X7_meetFour
theorem gv_X7_187 : GoodIn BIG (wsV RX7 187 RX7 yX7_four (Cond.code yX7_four cX7_four 9 ((some .long)) :: BIG)) := good_V wm_X7_187 wi_X7_four wse_X7_four win_X7 wc_X7_four
theorem gv_L_80 : GoodIn BIG (wsV RL 80 RX6 yX6_harms (Cond.code yX6_harms cX6_harms 4 ((some .int)) :: BIG)) := good_V wm_L_80 wi_X6_harms wse_X6_harms win_X6 wc_X6_harms
theorem gv_X6_211 : GoodIn BIG (wsV RX6 211 RX2 yX2_isAbove (Cond.code yX2_isAbove cX2_isAbove 2 ((some .boolean)) :: BIG)) := good_V wm_X6_211 wi_X2_isAbove wse_X2_isAbove win_X2 wc_X2_isAbove
theorem gv_L_83 : GoodIn BIG (wsV RL 83 RX7 yX7_harms (Cond.code yX7_harms cX7_harms 9 ((some .int)) :: BIG)) := good_V wm_L_83 wi_X7_harms wse_X7_harms win_X7 wc_X7_harms
theorem gv_L_84 : GoodIn BIG (wsV RL 84 RX6 yX6_falls (Cond.code yX6_falls cX6_falls 5 ((some .int)) :: BIG)) := good_V wm_L_84 wi_X6_falls wse_X6_falls win_X6 wc_X6_falls
theorem gv_L_87 : GoodIn BIG (wsV RL 87 RX7 yX7_falls (Cond.code yX7_falls cX7_falls 5 ((some .int)) :: BIG)) := good_V wm_L_87 wi_X7_falls wse_X7_falls win_X7 wc_X7_falls
theorem gv_L_88 : GoodIn BIG (wsV RL 88 RX6 yX6_spread (Cond.code yX6_spread cX6_spread 3 ((some .int)) :: BIG)) := good_V wm_L_88 wi_X6_spread wse_X6_spread win_X6 wc_X6_spread
theorem gv_L_91 : GoodIn BIG (wsV RL 91 RX7 yX7_spread (Cond.code yX7_spread cX7_spread 2 ((some .int)) :: BIG)) := good_V wm_L_91 wi_X7_spread wse_X7_spread win_X7 wc_X7_spread
theorem yd_X0_init : yX0_init.cls = RX0 ∧ yX0_init.cls ≠ "java/lang/invoke/MethodHandle" ∧ yX0_init.cls ≠ "java/lang/invoke/VarHandle" ∧ (parseMethodDescriptor yX0_init.desc).map (fun d => d.parameters.length) = some 0 := by decide +kernel
theorem yd_X0_renew : yX0_renew.cls = RX0 ∧ yX0_renew.cls ≠ "java/lang/invoke/MethodHandle" ∧ yX0_renew.cls ≠ "java/lang/invoke/VarHandle" ∧ (parseMethodDescriptor yX0_renew.desc).map (fun d => d.parameters.length) = some 1 := by decide +kernel
theorem yd_X0_span : yX0_span.cls = RX0 ∧ yX0_span.cls ≠ "java/lang/invoke/MethodHandle" ∧ yX0_span.cls ≠ "java/lang/invoke/VarHandle" ∧ (parseMethodDescriptor yX0_span.desc).map (fun d => d.parameters.length) = some 0 := by decide +kernel
theorem yd_X0_hasJoint : yX0_hasJoint.cls = RX0 ∧ yX0_hasJoint.cls ≠ "java/lang/invoke/MethodHandle" ∧ yX0_hasJoint.cls ≠ "java/lang/invoke/VarHandle" ∧ (parseMethodDescriptor yX0_hasJoint.desc).map (fun d => d.parameters.length) = some 1 := by decide +kernel
theorem yd_X0_hasInnerJoint : yX0_hasInnerJoint.cls = RX0 ∧ yX0_hasInnerJoint.cls ≠ "java/lang/invoke/MethodHandle" ∧ yX0_hasInnerJoint.cls ≠ "java/lang/invoke/VarHandle" ∧ (parseMethodDescriptor yX0_hasInnerJoint.desc).map (fun d => d.parameters.length) = some 1 := by decide +kernel
theorem yd_X0_mayTake : yX0_mayTake.cls = RX0 ∧ yX0_mayTake.cls ≠ "java/lang/invoke/MethodHandle" ∧ yX0_mayTake.cls ≠ "java/lang/invoke/VarHandle" ∧ (parseMethodDescriptor yX0_mayTake.desc).map (fun d => d.parameters.length) = some 2 := by decide +kernel
theorem yd_X0_take : yX0_take.cls = RX0 ∧ yX0_take.cls ≠ "java/lang/invoke/MethodHandle" ∧ yX0_take.cls ≠ "java/lang/invoke/VarHandle" ∧ (parseMethodDescriptor yX0_take.desc).map (fun d => d.parameters.length) = some 2 := by decide +kernel
theorem yd_X0_weigh : yX0_weigh.cls = RX0 ∧ yX0_weigh.cls ≠ "java/lang/invoke/MethodHandle" ∧ yX0_weigh.cls ≠ "java/lang/invoke/VarHandle" ∧ (parseMethodDescriptor yX0_weigh.desc).map (fun d => d.parameters.length) = some 1 := by decide +kernel
theorem yd_X0_rise : yX0_rise.cls = RX0 ∧ yX0_rise.cls ≠ "java/lang/invoke/MethodHandle" ∧ yX0_rise.cls ≠ "java/lang/invoke/VarHandle" ∧ (parseMethodDescriptor yX0_rise.desc).map (fun d => d.parameters.length) = some 5 := by decide +kernel
theorem yd_X0_bend : yX0_bend.cls = RX0 ∧ yX0_bend.cls ≠ "java/lang/invoke/MethodHandle" ∧ yX0_bend.cls ≠ "java/lang/invoke/VarHandle" ∧ (parseMethodDescriptor yX0_bend.desc).map (fun d => d.parameters.length) = some 3 := by decide +kernel
theorem yd_X1_init : yX1_init.cls = RX1 ∧ yX1_init.cls ≠ "java/lang/invoke/MethodHandle" ∧ yX1_init.cls ≠ "java/lang/invoke/VarHandle" ∧ (parseMethodDescriptor yX1_init.desc).map (fun d => d.parameters.length) = some 1 := by decide +kernel
theorem yd_X1_find : yX1_find.cls = RX1 ∧ yX1_find.cls ≠ "java/lang/invoke/MethodHandle" ∧ yX1_find.cls ≠ "java/lang/invoke/VarHandle" ∧ (parseMethodDescriptor yX1_find.desc).map (fun d => d.parameters.length) = some 0 := by decide +kernel
theorem yd_X1_findFirst : yX1_findFirst.cls = RX1 ∧ yX1_findFirst.cls ≠ "java/lang/invoke/MethodHandle" ∧ yX1_findFirst.cls ≠ "java/lang/invoke/VarHandle" ∧ (parseMethodDescriptor yX1_findFirst.desc).map (fun d => d.parameters.length) = some 1 := by decide +kernel
theorem yd_X1_barsThree : yX1_barsThree.cls = RX1 ∧ yX1_barsThree.cls ≠ "java/lang/invoke/MethodHandle" ∧ yX1_barsThree.cls ≠ "java/lang/invoke/VarHandle" ∧ (parseMethodDescriptor yX1_barsThree.desc).map (fun d => d.parameters.length) = some 4 := by decide +kernel
theorem yd_X1_barsFour : yX1_barsFour.cls = RX1 ∧ yX1_barsFour.cls ≠ "java/lang/invoke/MethodHandle" ∧ yX1_barsFour.cls ≠ "java/lang/invoke/VarHandle" ∧ (parseMethodDescriptor yX1_barsFour.desc).map (fun d => d.parameters.length) = some 4 := by decide +kernel
theorem yd_X1_keep : yX1_keep.cls = RX1 ∧ yX1_keep.cls ≠ "java/lang/invoke/MethodHandle" ∧ yX1_keep.cls ≠ "java/lang/invoke/VarHandle" ∧ (parseMethodDescriptor yX1_keep.desc).map (fun d => d.parameters.length) = some 4 := by decide +kernel
theorem yd_X1_isBeyondChord : yX1_isBeyondChord.cls = RX1 ∧ yX1_isBeyondChord.cls ≠ "java/lang/invoke/MethodHandle" ∧ yX1_isBeyondChord.cls ≠ "java/lang/invoke/VarHandle" ∧ (parseMethodDescriptor yX1_isBeyondChord.desc).map (fun d => d.parameters.length) = some 4 := by decide +kernel
theorem yd_X1_isCrossed : yX1_isCrossed.cls = RX1 ∧ yX1_isCrossed.cls ≠ "java/lang/invoke/MethodHandle" ∧ yX1_isCrossed.cls ≠ "java/lang/invoke/VarHandle" ∧ (parseMethodDescriptor yX1_isCrossed.desc).map (fun d => d.parameters.length) = some 5 := by decide +kernel
theorem yd_X2_init : yX2_init.cls = RX2 ∧ yX2_init.cls ≠ "java/lang/invoke/MethodHandle" ∧ yX2_init.cls ≠ "java/lang/invoke/VarHandle" ∧ (parseMethodDescriptor yX2_init.desc).map (fun d => d.parameters.length) = some 0 := by decide +kernel
theorem yd_X2_become : yX2_become.cls = RX2 ∧ yX2_become.cls ≠ "java/lang/invoke/MethodHandle" ∧ yX2_become.cls ≠ "java/lang/invoke/VarHandle" ∧ (parseMethodDescriptor yX2_become.desc).map (fun d => d.parameters.length) = some 2 := by decide +kernel
theorem yd_X2_isAbove : yX2_isAbove.cls = RX2 ∧ yX2_isAbove.cls ≠ "java/lang/invoke/MethodHandle" ∧ yX2_isAbove.cls ≠ "java/lang/invoke/VarHandle" ∧ (parseMethodDescriptor yX2_isAbove.desc).map (fun d => d.parameters.length) = some 1 := by decide +kernel
theorem yd_X2_part : yX2_part.cls = RX2 ∧ yX2_part.cls ≠ "java/lang/invoke/MethodHandle" ∧ yX2_part.cls ≠ "java/lang/invoke/VarHandle" ∧ (parseMethodDescriptor yX2_part.desc).map (fun d => d.parameters.length) = some 1 := by decide +kernel
theorem yd_X2_commonDivisor : yX2_commonDivisor.cls = RX2 ∧ yX2_commonDivisor.cls ≠ "java/lang/invoke/MethodHandle" ∧ yX2_commonDivisor.cls ≠ "java/lang/invoke/VarHandle" ∧ (parseMethodDescriptor yX2_commonDivisor.desc).map (fun d => d.parameters.length) = some 2 := by decide +kernel
theorem yd_X3_init : yX3_init.cls = RX3 ∧ yX3_init.cls ≠ "java/lang/invoke/MethodHandle" ∧ yX3_init.cls ≠ "java/lang/invoke/VarHandle" ∧ (parseMethodDescriptor yX3_init.desc).map (fun d => d.parameters.length) = some 1 := by decide +kernel
theorem yd_X3_lay : yX3_lay.cls = RX3 ∧ yX3_lay.cls ≠ "java/lang/invoke/MethodHandle" ∧ yX3_lay.cls ≠ "java/lang/invoke/VarHandle" ∧ (parseMethodDescriptor yX3_lay.desc).map (fun d => d.parameters.length) = some 1 := by decide +kernel
theorem yd_X3_findLeastStart : yX3_findLeastStart.cls = RX3 ∧ yX3_findLeastStart.cls ≠ "java/lang/invoke/MethodHandle" ∧ yX3_findLeastStart.cls ≠ "java/lang/invoke/VarHandle" ∧ (parseMethodDescriptor yX3_findLeastStart.desc).map (fun d => d.parameters.length) = some 0 := by decide +kernel
theorem yd_X3_findLeastSlope : yX3_findLeastSlope.cls = RX3 ∧ yX3_findLeastSlope.cls ≠ "java/lang/invoke/MethodHandle" ∧ yX3_findLeastSlope.cls ≠ "java/lang/invoke/VarHandle" ∧ (parseMethodDescriptor yX3_findLeastSlope.desc).map (fun d => d.parameters.length) = some 0 := by decide +kernel
theorem yd_X3_heightInto : yX3_heightInto.cls = RX3 ∧ yX3_heightInto.cls ≠ "java/lang/invoke/MethodHandle" ∧ yX3_heightInto.cls ≠ "java/lang/invoke/VarHandle" ∧ (parseMethodDescriptor yX3_heightInto.desc).map (fun d => d.parameters.length) = some 2 := by decide +kernel
theorem yd_X3_straightLow : yX3_straightLow.cls = RX3 ∧ yX3_straightLow.cls ≠ "java/lang/invoke/MethodHandle" ∧ yX3_straightLow.cls ≠ "java/lang/invoke/VarHandle" ∧ (parseMethodDescriptor yX3_straightLow.desc).map (fun d => d.parameters.length) = some 1 := by decide +kernel
theorem yd_X3_straightHigh : yX3_straightHigh.cls = RX3 ∧ yX3_straightHigh.cls ≠ "java/lang/invoke/MethodHandle" ∧ yX3_straightHigh.cls ≠ "java/lang/invoke/VarHandle" ∧ (parseMethodDescriptor yX3_straightHigh.desc).map (fun d => d.parameters.length) = some 1 := by decide +kernel
theorem yd_X4_init : yX4_init.cls = RX4 ∧ yX4_init.cls ≠ "java/lang/invoke/MethodHandle" ∧ yX4_init.cls ≠ "java/lang/invoke/VarHandle" ∧ (parseMethodDescriptor yX4_init.desc).map (fun d => d.parameters.length) = some 0 := by decide +kernel
theorem yd_X4_hold : yX4_hold.cls = RX4 ∧ yX4_hold.cls ≠ "java/lang/invoke/MethodHandle" ∧ yX4_hold.cls ≠ "java/lang/invoke/VarHandle" ∧ (parseMethodDescriptor yX4_hold.desc).map (fun d => d.parameters.length) = some 2 := by decide +kernel
theorem yd_X5_init : yX5_init.cls = RX5 ∧ yX5_init.cls ≠ "java/lang/invoke/MethodHandle" ∧ yX5_init.cls ≠ "java/lang/invoke/VarHandle" ∧ (parseMethodDescriptor yX5_init.desc).map (fun d => d.parameters.length) = some 1 := by decide +kernel
theorem yd_X5_gather : yX5_gather.cls = RX5 ∧ yX5_gather.cls ≠ "java/lang/invoke/MethodHandle" ∧ yX5_gather.cls ≠ "java/lang/invoke/VarHandle" ∧ (parseMethodDescriptor yX5_gather.desc).map (fun d => d.parameters.length) = some 1 := by decide +kernel
theorem yd_X5_hold : yX5_hold.cls = RX5 ∧ yX5_hold.cls ≠ "java/lang/invoke/MethodHandle" ∧ yX5_hold.cls ≠ "java/lang/invoke/VarHandle" ∧ (parseMethodDescriptor yX5_hold.desc).map (fun d => d.parameters.length) = some 0 := by decide +kernel
theorem yd_X5_greatestPush : yX5_greatestPush.cls = RX5 ∧ yX5_greatestPush.cls ≠ "java/lang/invoke/MethodHandle" ∧ yX5_greatestPush.cls ≠ "java/lang/invoke/VarHandle" ∧ (parseMethodDescriptor yX5_greatestPush.desc).map (fun d => d.parameters.length) = some 1 := by decide +kernel
theorem yd_X5_leastPush : yX5_leastPush.cls = RX5 ∧ yX5_leastPush.cls ≠ "java/lang/invoke/MethodHandle" ∧ yX5_leastPush.cls ≠ "java/lang/invoke/VarHandle" ∧ (parseMethodDescriptor yX5_leastPush.desc).map (fun d => d.parameters.length) = some 1 := by decide +kernel
theorem yd_X5_leastFactor : yX5_leastFactor.cls = RX5 ∧ yX5_leastFactor.cls ≠ "java/lang/invoke/MethodHandle" ∧ yX5_leastFactor.cls ≠ "java/lang/invoke/VarHandle" ∧ (parseMethodDescriptor yX5_leastFactor.desc).map (fun d => d.parameters.length) = some 1 := by decide +kernel
theorem yd_X5_straightFactor : yX5_straightFactor.cls = RX5 ∧ yX5_straightFactor.cls ≠ "java/lang/invoke/MethodHandle" ∧ yX5_straightFactor.cls ≠ "java/lang/invoke/VarHandle" ∧ (parseMethodDescriptor yX5_straightFactor.desc).map (fun d => d.parameters.length) = some 1 := by decide +kernel
theorem yd_X5_least : yX5_least.cls = RX5 ∧ yX5_least.cls ≠ "java/lang/invoke/MethodHandle" ∧ yX5_least.cls ≠ "java/lang/invoke/VarHandle" ∧ (parseMethodDescriptor yX5_least.desc).map (fun d => d.parameters.length) = some 3 := by decide +kernel
theorem yd_X5_most : yX5_most.cls = RX5 ∧ yX5_most.cls ≠ "java/lang/invoke/MethodHandle" ∧ yX5_most.cls ≠ "java/lang/invoke/VarHandle" ∧ (parseMethodDescriptor yX5_most.desc).map (fun d => d.parameters.length) = some 3 := by decide +kernel
theorem yd_X5_tightestLeast : yX5_tightestLeast.cls = RX5 ∧ yX5_tightestLeast.cls ≠ "java/lang/invoke/MethodHandle" ∧ yX5_tightestLeast.cls ≠ "java/lang/invoke/VarHandle" ∧ (parseMethodDescriptor yX5_tightestLeast.desc).map (fun d => d.parameters.length) = some 2 := by decide +kernel
theorem yd_X5_tightestMost : yX5_tightestMost.cls = RX5 ∧ yX5_tightestMost.cls ≠ "java/lang/invoke/MethodHandle" ∧ yX5_tightestMost.cls ≠ "java/lang/invoke/VarHandle" ∧ (parseMethodDescriptor yX5_tightestMost.desc).map (fun d => d.parameters.length) = some 2 := by decide +kernel
theorem yd_X5_bars : yX5_bars.cls = RX5 ∧ yX5_bars.cls ≠ "java/lang/invoke/MethodHandle" ∧ yX5_bars.cls ≠ "java/lang/invoke/VarHandle" ∧ (parseMethodDescriptor yX5_bars.desc).map (fun d => d.parameters.length) = some 4 := by decide +kernel
theorem yd_X6_init : yX6_init.cls = RX6 ∧ yX6_init.cls ≠ "java/lang/invoke/MethodHandle" ∧ yX6_init.cls ≠ "java/lang/invoke/VarHandle" ∧ (parseMethodDescriptor yX6_init.desc).map (fun d => d.parameters.length) = some 0 := by decide +kernel
theorem yd_X6_joints : yX6_joints.cls = RX6 ∧ yX6_joints.cls ≠ "java/lang/invoke/MethodHandle" ∧ yX6_joints.cls ≠ "java/lang/invoke/VarHandle" ∧ (parseMethodDescriptor yX6_joints.desc).map (fun d => d.parameters.length) = some 1 := by decide +kernel
theorem yd_X6_at : yX6_at.cls = RX6 ∧ yX6_at.cls ≠ "java/lang/invoke/MethodHandle" ∧ yX6_at.cls ≠ "java/lang/invoke/VarHandle" ∧ (parseMethodDescriptor yX6_at.desc).map (fun d => d.parameters.length) = some 2 := by decide +kernel
theorem yd_X6_edges : yX6_edges.cls = RX6 ∧ yX6_edges.cls ≠ "java/lang/invoke/MethodHandle" ∧ yX6_edges.cls ≠ "java/lang/invoke/VarHandle" ∧ (parseMethodDescriptor yX6_edges.desc).map (fun d => d.parameters.length) = some 3 := by decide +kernel
theorem yd_X6_load : yX6_load.cls = RX6 ∧ yX6_load.cls ≠ "java/lang/invoke/MethodHandle" ∧ yX6_load.cls ≠ "java/lang/invoke/VarHandle" ∧ (parseMethodDescriptor yX6_load.desc).map (fun d => d.parameters.length) = some 2 := by decide +kernel
theorem yd_X6_sheet : yX6_sheet.cls = RX6 ∧ yX6_sheet.cls ≠ "java/lang/invoke/MethodHandle" ∧ yX6_sheet.cls ≠ "java/lang/invoke/VarHandle" ∧ (parseMethodDescriptor yX6_sheet.desc).map (fun d => d.parameters.length) = some 3 := by decide +kernel
theorem yd_X6_drop : yX6_drop.cls = RX6 ∧ yX6_drop.cls ≠ "java/lang/invoke/MethodHandle" ∧ yX6_drop.cls ≠ "java/lang/invoke/VarHandle" ∧ (parseMethodDescriptor yX6_drop.desc).map (fun d => d.parameters.length) = some 1 := by decide +kernel
theorem yd_X6_item : yX6_item.cls = RX6 ∧ yX6_item.cls ≠ "java/lang/invoke/MethodHandle" ∧ yX6_item.cls ≠ "java/lang/invoke/VarHandle" ∧ (parseMethodDescriptor yX6_item.desc).map (fun d => d.parameters.length) = some 4 := by decide +kernel
theorem yd_X6_read : yX6_read.cls = RX6 ∧ yX6_read.cls ≠ "java/lang/invoke/MethodHandle" ∧ yX6_read.cls ≠ "java/lang/invoke/VarHandle" ∧ (parseMethodDescriptor yX6_read.desc).map (fun d => d.parameters.length) = some 3 := by decide +kernel
theorem yd_X6_told : yX6_told.cls = RX6 ∧ yX6_told.cls ≠ "java/lang/invoke/MethodHandle" ∧ yX6_told.cls ≠ "java/lang/invoke/VarHandle" ∧ (parseMethodDescriptor yX6_told.desc).map (fun d => d.parameters.length) = some 2 := by decide +kernel
theorem yd_X6_stands : yX6_stands.cls = RX6 ∧ yX6_stands.cls ≠ "java/lang/invoke/MethodHandle" ∧ yX6_stands.cls ≠ "java/lang/invoke/VarHandle" ∧ (parseMethodDescriptor yX6_stands.desc).map (fun d => d.parameters.length) = some 0 := by decide +kernel
theorem yd_X6_thrust : yX6_thrust.cls = RX6 ∧ yX6_thrust.cls ≠ "java/lang/invoke/MethodHandle" ∧ yX6_thrust.cls ≠ "java/lang/invoke/VarHandle" ∧ (parseMethodDescriptor yX6_thrust.desc).map (fun d => d.parameters.length) = some 2 := by decide +kernel
theorem yd_X6_height : yX6_height.cls = RX6 ∧ yX6_height.cls ≠ "java/lang/invoke/MethodHandle" ∧ yX6_height.cls ≠ "java/lang/invoke/VarHandle" ∧ (parseMethodDescriptor yX6_height.desc).map (fun d => d.parameters.length) = some 2 := by decide +kernel
theorem yd_X6_bar : yX6_bar.cls = RX6 ∧ yX6_bar.cls ≠ "java/lang/invoke/MethodHandle" ∧ yX6_bar.cls ≠ "java/lang/invoke/VarHandle" ∧ (parseMethodDescriptor yX6_bar.desc).map (fun d => d.parameters.length) = some 1 := by decide +kernel
theorem yd_X6_fits : yX6_fits.cls = RX6 ∧ yX6_fits.cls ≠ "java/lang/invoke/MethodHandle" ∧ yX6_fits.cls ≠ "java/lang/invoke/VarHandle" ∧ (parseMethodDescriptor yX6_fits.desc).map (fun d => d.parameters.length) = some 4 := by decide +kernel
theorem yd_X6_factor : yX6_factor.cls = RX6 ∧ yX6_factor.cls ≠ "java/lang/invoke/MethodHandle" ∧ yX6_factor.cls ≠ "java/lang/invoke/VarHandle" ∧ (parseMethodDescriptor yX6_factor.desc).map (fun d => d.parameters.length) = some 1 := by decide +kernel
theorem yd_X6_harms : yX6_harms.cls = RX6 ∧ yX6_harms.cls ≠ "java/lang/invoke/MethodHandle" ∧ yX6_harms.cls ≠ "java/lang/invoke/VarHandle" ∧ (parseMethodDescriptor yX6_harms.desc).map (fun d => d.parameters.length) = some 1 := by decide +kernel
theorem yd_X6_falls : yX6_falls.cls = RX6 ∧ yX6_falls.cls ≠ "java/lang/invoke/MethodHandle" ∧ yX6_falls.cls ≠ "java/lang/invoke/VarHandle" ∧ (parseMethodDescriptor yX6_falls.desc).map (fun d => d.parameters.length) = some 0 := by decide +kernel
theorem yd_X6_spread : yX6_spread.cls = RX6 ∧ yX6_spread.cls ≠ "java/lang/invoke/MethodHandle" ∧ yX6_spread.cls ≠ "java/lang/invoke/VarHandle" ∧ (parseMethodDescriptor yX6_spread.desc).map (fun d => d.parameters.length) = some 1 := by decide +kernel
theorem yd_X6_holdsUnder : yX6_holdsUnder.cls = RX6 ∧ yX6_holdsUnder.cls ≠ "java/lang/invoke/MethodHandle" ∧ yX6_holdsUnder.cls ≠ "java/lang/invoke/VarHandle" ∧ (parseMethodDescriptor yX6_holdsUnder.desc).map (fun d => d.parameters.length) = some 1 := by decide +kernel
theorem yd_X6_refusalOfRow : yX6_refusalOfRow.cls = RX6 ∧ yX6_refusalOfRow.cls ≠ "java/lang/invoke/MethodHandle" ∧ yX6_refusalOfRow.cls ≠ "java/lang/invoke/VarHandle" ∧ (parseMethodDescriptor yX6_refusalOfRow.desc).map (fun d => d.parameters.length) = some 2 := by decide +kernel
theorem yd_X6_isSheet : yX6_isSheet.cls = RX6 ∧ yX6_isSheet.cls ≠ "java/lang/invoke/MethodHandle" ∧ yX6_isSheet.cls ≠ "java/lang/invoke/VarHandle" ∧ (parseMethodDescriptor yX6_isSheet.desc).map (fun d => d.parameters.length) = some 1 := by decide +kernel
theorem yd_X6_isLane : yX6_isLane.cls = RX6 ∧ yX6_isLane.cls ≠ "java/lang/invoke/MethodHandle" ∧ yX6_isLane.cls ≠ "java/lang/invoke/VarHandle" ∧ (parseMethodDescriptor yX6_isLane.desc).map (fun d => d.parameters.length) = some 1 := by decide +kernel
theorem yd_X6_isChoice : yX6_isChoice.cls = RX6 ∧ yX6_isChoice.cls ≠ "java/lang/invoke/MethodHandle" ∧ yX6_isChoice.cls ≠ "java/lang/invoke/VarHandle" ∧ (parseMethodDescriptor yX6_isChoice.desc).map (fun d => d.parameters.length) = some 1 := by decide +kernel
theorem yd_X6_isHeight : yX6_isHeight.cls = RX6 ∧ yX6_isHeight.cls ≠ "java/lang/invoke/MethodHandle" ∧ yX6_isHeight.cls ≠ "java/lang/invoke/VarHandle" ∧ (parseMethodDescriptor yX6_isHeight.desc).map (fun d => d.parameters.length) = some 1 := by decide +kernel
theorem yd_X6_areEdges : yX6_areEdges.cls = RX6 ∧ yX6_areEdges.cls ≠ "java/lang/invoke/MethodHandle" ∧ yX6_areEdges.cls ≠ "java/lang/invoke/VarHandle" ∧ (parseMethodDescriptor yX6_areEdges.desc).map (fun d => d.parameters.length) = some 2 := by decide +kernel
theorem yd_X6_isLoad : yX6_isLoad.cls = RX6 ∧ yX6_isLoad.cls ≠ "java/lang/invoke/MethodHandle" ∧ yX6_isLoad.cls ≠ "java/lang/invoke/VarHandle" ∧ (parseMethodDescriptor yX6_isLoad.desc).map (fun d => d.parameters.length) = some 1 := by decide +kernel
theorem yd_X7_in : yX7_in.cls = RX7 ∧ yX7_in.cls ≠ "java/lang/invoke/MethodHandle" ∧ yX7_in.cls ≠ "java/lang/invoke/VarHandle" ∧ (parseMethodDescriptor yX7_in.desc).map (fun d => d.parameters.length) = some 3 := by decide +kernel
theorem yd_X7_common : yX7_common.cls = RX7 ∧ yX7_common.cls ≠ "java/lang/invoke/MethodHandle" ∧ yX7_common.cls ≠ "java/lang/invoke/VarHandle" ∧ (parseMethodDescriptor yX7_common.desc).map (fun d => d.parameters.length) = some 2 := by decide +kernel
theorem yd_X7_init : yX7_init.cls = RX7 ∧ yX7_init.cls ≠ "java/lang/invoke/MethodHandle" ∧ yX7_init.cls ≠ "java/lang/invoke/VarHandle" ∧ (parseMethodDescriptor yX7_init.desc).map (fun d => d.parameters.length) = some 0 := by decide +kernel
theorem yd_X7_begin : yX7_begin.cls = RX7 ∧ yX7_begin.cls ≠ "java/lang/invoke/MethodHandle" ∧ yX7_begin.cls ≠ "java/lang/invoke/VarHandle" ∧ (parseMethodDescriptor yX7_begin.desc).map (fun d => d.parameters.length) = some 1 := by decide +kernel
theorem yd_X7_joints : yX7_joints.cls = RX7 ∧ yX7_joints.cls ≠ "java/lang/invoke/MethodHandle" ∧ yX7_joints.cls ≠ "java/lang/invoke/VarHandle" ∧ (parseMethodDescriptor yX7_joints.desc).map (fun d => d.parameters.length) = some 1 := by decide +kernel
theorem yd_X7_at : yX7_at.cls = RX7 ∧ yX7_at.cls ≠ "java/lang/invoke/MethodHandle" ∧ yX7_at.cls ≠ "java/lang/invoke/VarHandle" ∧ (parseMethodDescriptor yX7_at.desc).map (fun d => d.parameters.length) = some 2 := by decide +kernel
theorem yd_X7_edges : yX7_edges.cls = RX7 ∧ yX7_edges.cls ≠ "java/lang/invoke/MethodHandle" ∧ yX7_edges.cls ≠ "java/lang/invoke/VarHandle" ∧ (parseMethodDescriptor yX7_edges.desc).map (fun d => d.parameters.length) = some 3 := by decide +kernel
theorem yd_X7_load : yX7_load.cls = RX7 ∧ yX7_load.cls ≠ "java/lang/invoke/MethodHandle" ∧ yX7_load.cls ≠ "java/lang/invoke/VarHandle" ∧ (parseMethodDescriptor yX7_load.desc).map (fun d => d.parameters.length) = some 2 := by decide +kernel
theorem yd_X7_isSheet : yX7_isSheet.cls = RX7 ∧ yX7_isSheet.cls ≠ "java/lang/invoke/MethodHandle" ∧ yX7_isSheet.cls ≠ "java/lang/invoke/VarHandle" ∧ (parseMethodDescriptor yX7_isSheet.desc).map (fun d => d.parameters.length) = some 2 := by decide +kernel
theorem yd_X7_sheet : yX7_sheet.cls = RX7 ∧ yX7_sheet.cls ≠ "java/lang/invoke/MethodHandle" ∧ yX7_sheet.cls ≠ "java/lang/invoke/VarHandle" ∧ (parseMethodDescriptor yX7_sheet.desc).map (fun d => d.parameters.length) = some 3 := by decide +kernel
theorem yd_X7_drop : yX7_drop.cls = RX7 ∧ yX7_drop.cls ≠ "java/lang/invoke/MethodHandle" ∧ yX7_drop.cls ≠ "java/lang/invoke/VarHandle" ∧ (parseMethodDescriptor yX7_drop.desc).map (fun d => d.parameters.length) = some 1 := by decide +kernel
theorem yd_X7_item : yX7_item.cls = RX7 ∧ yX7_item.cls ≠ "java/lang/invoke/MethodHandle" ∧ yX7_item.cls ≠ "java/lang/invoke/VarHandle" ∧ (parseMethodDescriptor yX7_item.desc).map (fun d => d.parameters.length) = some 4 := by decide +kernel
theorem yd_X7_read : yX7_read.cls = RX7 ∧ yX7_read.cls ≠ "java/lang/invoke/MethodHandle" ∧ yX7_read.cls ≠ "java/lang/invoke/VarHandle" ∧ (parseMethodDescriptor yX7_read.desc).map (fun d => d.parameters.length) = some 3 := by decide +kernel
theorem yd_X7_momentAt : yX7_momentAt.cls = RX7 ∧ yX7_momentAt.cls ≠ "java/lang/invoke/MethodHandle" ∧ yX7_momentAt.cls ≠ "java/lang/invoke/VarHandle" ∧ (parseMethodDescriptor yX7_momentAt.desc).map (fun d => d.parameters.length) = some 1 := by decide +kernel
theorem yd_X7_told : yX7_told.cls = RX7 ∧ yX7_told.cls ≠ "java/lang/invoke/MethodHandle" ∧ yX7_told.cls ≠ "java/lang/invoke/VarHandle" ∧ (parseMethodDescriptor yX7_told.desc).map (fun d => d.parameters.length) = some 2 := by decide +kernel
theorem yd_X7_setRow : yX7_setRow.cls = RX7 ∧ yX7_setRow.cls ≠ "java/lang/invoke/MethodHandle" ∧ yX7_setRow.cls ≠ "java/lang/invoke/VarHandle" ∧ (parseMethodDescriptor yX7_setRow.desc).map (fun d => d.parameters.length) = some 6 := by decide +kernel
theorem yd_X7_findRows : yX7_findRows.cls = RX7 ∧ yX7_findRows.cls ≠ "java/lang/invoke/MethodHandle" ∧ yX7_findRows.cls ≠ "java/lang/invoke/VarHandle" ∧ (parseMethodDescriptor yX7_findRows.desc).map (fun d => d.parameters.length) = some 1 := by decide +kernel
theorem yd_X7_three : yX7_three.cls = RX7 ∧ yX7_three.cls ≠ "java/lang/invoke/MethodHandle" ∧ yX7_three.cls ≠ "java/lang/invoke/VarHandle" ∧ (parseMethodDescriptor yX7_three.desc).map (fun d => d.parameters.length) = some 6 := by decide +kernel
theorem yd_X7_keepsAll : yX7_keepsAll.cls = RX7 ∧ yX7_keepsAll.cls ≠ "java/lang/invoke/MethodHandle" ∧ yX7_keepsAll.cls ≠ "java/lang/invoke/VarHandle" ∧ (parseMethodDescriptor yX7_keepsAll.desc).map (fun d => d.parameters.length) = some 0 := by decide +kernel
theorem yd_X7_turnSpot : yX7_turnSpot.cls = RX7 ∧ yX7_turnSpot.cls ≠ "java/lang/invoke/MethodHandle" ∧ yX7_turnSpot.cls ≠ "java/lang/invoke/VarHandle" ∧ (parseMethodDescriptor yX7_turnSpot.desc).map (fun d => d.parameters.length) = some 0 := by decide +kernel
theorem yd_X7_meetThree : yX7_meetThree.cls = RX7 ∧ yX7_meetThree.cls ≠ "java/lang/invoke/MethodHandle" ∧ yX7_meetThree.cls ≠ "java/lang/invoke/VarHandle" ∧ (parseMethodDescriptor yX7_meetThree.desc).map (fun d => d.parameters.length) = some 3 := by decide +kernel
theorem yd_X7_down : yX7_down.cls = RX7 ∧ yX7_down.cls ≠ "java/lang/invoke/MethodHandle" ∧ yX7_down.cls ≠ "java/lang/invoke/VarHandle" ∧ (parseMethodDescriptor yX7_down.desc).map (fun d => d.parameters.length) = some 2 := by decide +kernel
theorem yd_X7_compare : yX7_compare.cls = RX7 ∧ yX7_compare.cls ≠ "java/lang/invoke/MethodHandle" ∧ yX7_compare.cls ≠ "java/lang/invoke/VarHandle" ∧ (parseMethodDescriptor yX7_compare.desc).map (fun d => d.parameters.length) = some 4 := by decide +kernel
theorem yd_X7_findLines : yX7_findLines.cls = RX7 ∧ yX7_findLines.cls ≠ "java/lang/invoke/MethodHandle" ∧ yX7_findLines.cls ≠ "java/lang/invoke/VarHandle" ∧ (parseMethodDescriptor yX7_findLines.desc).map (fun d => d.parameters.length) = some 0 := by decide +kernel
theorem yd_X7_takeSpot : yX7_takeSpot.cls = RX7 ∧ yX7_takeSpot.cls ≠ "java/lang/invoke/MethodHandle" ∧ yX7_takeSpot.cls ≠ "java/lang/invoke/VarHandle" ∧ (parseMethodDescriptor yX7_takeSpot.desc).map (fun d => d.parameters.length) = some 0 := by decide +kernel
theorem yd_X7_isLoose : yX7_isLoose.cls = RX7 ∧ yX7_isLoose.cls ≠ "java/lang/invoke/MethodHandle" ∧ yX7_isLoose.cls ≠ "java/lang/invoke/VarHandle" ∧ (parseMethodDescriptor yX7_isLoose.desc).map (fun d => d.parameters.length) = some 0 := by decide +kernel
theorem yd_X7_stands : yX7_stands.cls = RX7 ∧ yX7_stands.cls ≠ "java/lang/invoke/MethodHandle" ∧ yX7_stands.cls ≠ "java/lang/invoke/VarHandle" ∧ (parseMethodDescriptor yX7_stands.desc).map (fun d => d.parameters.length) = some 0 := by decide +kernel
theorem yd_X7_thrust : yX7_thrust.cls = RX7 ∧ yX7_thrust.cls ≠ "java/lang/invoke/MethodHandle" ∧ yX7_thrust.cls ≠ "java/lang/invoke/VarHandle" ∧ (parseMethodDescriptor yX7_thrust.desc).map (fun d => d.parameters.length) = some 2 := by decide +kernel
theorem yd_X7_height : yX7_height.cls = RX7 ∧ yX7_height.cls ≠ "java/lang/invoke/MethodHandle" ∧ yX7_height.cls ≠ "java/lang/invoke/VarHandle" ∧ (parseMethodDescriptor yX7_height.desc).map (fun d => d.parameters.length) = some 2 := by decide +kernel
theorem yd_X7_fits : yX7_fits.cls = RX7 ∧ yX7_fits.cls ≠ "java/lang/invoke/MethodHandle" ∧ yX7_fits.cls ≠ "java/lang/invoke/VarHandle" ∧ (parseMethodDescriptor yX7_fits.desc).map (fun d => d.parameters.length) = some 4 := by decide +kernel
theorem yd_X7_pair : yX7_pair.cls = RX7 ∧ yX7_pair.cls ≠ "java/lang/invoke/MethodHandle" ∧ yX7_pair.cls ≠ "java/lang/invoke/VarHandle" ∧ (parseMethodDescriptor yX7_pair.desc).map (fun d => d.parameters.length) = some 4 := by decide +kernel
theorem yd_X7_isAgainst : yX7_isAgainst.cls = RX7 ∧ yX7_isAgainst.cls ≠ "java/lang/invoke/MethodHandle" ∧ yX7_isAgainst.cls ≠ "java/lang/invoke/VarHandle" ∧ (parseMethodDescriptor yX7_isAgainst.desc).map (fun d => d.parameters.length) = some 5 := by decide +kernel
theorem yd_X7_summed : yX7_summed.cls = RX7 ∧ yX7_summed.cls ≠ "java/lang/invoke/MethodHandle" ∧ yX7_summed.cls ≠ "java/lang/invoke/VarHandle" ∧ (parseMethodDescriptor yX7_summed.desc).map (fun d => d.parameters.length) = some 6 := by decide +kernel
theorem yd_X7_areTwo : yX7_areTwo.cls = RX7 ∧ yX7_areTwo.cls ≠ "java/lang/invoke/MethodHandle" ∧ yX7_areTwo.cls ≠ "java/lang/invoke/VarHandle" ∧ (parseMethodDescriptor yX7_areTwo.desc).map (fun d => d.parameters.length) = some 0 := by decide +kernel
theorem yd_X7_areThree : yX7_areThree.cls = RX7 ∧ yX7_areThree.cls ≠ "java/lang/invoke/MethodHandle" ∧ yX7_areThree.cls ≠ "java/lang/invoke/VarHandle" ∧ (parseMethodDescriptor yX7_areThree.desc).map (fun d => d.parameters.length) = some 0 := by decide +kernel
theorem yd_X7_areFour : yX7_areFour.cls = RX7 ∧ yX7_areFour.cls ≠ "java/lang/invoke/MethodHandle" ∧ yX7_areFour.cls ≠ "java/lang/invoke/VarHandle" ∧ (parseMethodDescriptor yX7_areFour.desc).map (fun d => d.parameters.length) = some 0 := by decide +kernel
theorem yd_X7_findBars : yX7_findBars.cls = RX7 ∧ yX7_findBars.cls ≠ "java/lang/invoke/MethodHandle" ∧ yX7_findBars.cls ≠ "java/lang/invoke/VarHandle" ∧ (parseMethodDescriptor yX7_findBars.desc).map (fun d => d.parameters.length) = some 0 := by decide +kernel
theorem yd_X7_bar : yX7_bar.cls = RX7 ∧ yX7_bar.cls ≠ "java/lang/invoke/MethodHandle" ∧ yX7_bar.cls ≠ "java/lang/invoke/VarHandle" ∧ (parseMethodDescriptor yX7_bar.desc).map (fun d => d.parameters.length) = some 1 := by decide +kernel
theorem yd_X7_four : yX7_four.cls = RX7 ∧ yX7_four.cls ≠ "java/lang/invoke/MethodHandle" ∧ yX7_four.cls ≠ "java/lang/invoke/VarHandle" ∧ (parseMethodDescriptor yX7_four.desc).map (fun d => d.parameters.length) = some 8 := by decide +kernel
theorem yd_X7_meetFour : yX7_meetFour.cls = RX7 ∧ yX7_meetFour.cls ≠ "java/lang/invoke/MethodHandle" ∧ yX7_meetFour.cls ≠ "java/lang/invoke/VarHandle" ∧ (parseMethodDescriptor yX7_meetFour.desc).map (fun d => d.parameters.length) = some 4 := by decide +kernel
theorem yd_X7_findFactor : yX7_findFactor.cls = RX7 ∧ yX7_findFactor.cls ≠ "java/lang/invoke/MethodHandle" ∧ yX7_findFactor.cls ≠ "java/lang/invoke/VarHandle" ∧ (parseMethodDescriptor yX7_findFactor.desc).map (fun d => d.parameters.length) = some 0 := by decide +kernel
theorem yd_X7_factor : yX7_factor.cls = RX7 ∧ yX7_factor.cls ≠ "java/lang/invoke/MethodHandle" ∧ yX7_factor.cls ≠ "java/lang/invoke/VarHandle" ∧ (parseMethodDescriptor yX7_factor.desc).map (fun d => d.parameters.length) = some 1 := by decide +kernel
theorem yd_X7_harms : yX7_harms.cls = RX7 ∧ yX7_harms.cls ≠ "java/lang/invoke/MethodHandle" ∧ yX7_harms.cls ≠ "java/lang/invoke/VarHandle" ∧ (parseMethodDescriptor yX7_harms.desc).map (fun d => d.parameters.length) = some 1 := by decide +kernel
theorem yd_X7_falls : yX7_falls.cls = RX7 ∧ yX7_falls.cls ≠ "java/lang/invoke/MethodHandle" ∧ yX7_falls.cls ≠ "java/lang/invoke/VarHandle" ∧ (parseMethodDescriptor yX7_falls.desc).map (fun d => d.parameters.length) = some 0 := by decide +kernel
theorem yd_X7_spread : yX7_spread.cls = RX7 ∧ yX7_spread.cls ≠ "java/lang/invoke/MethodHandle" ∧ yX7_spread.cls ≠ "java/lang/invoke/VarHandle" ∧ (parseMethodDescriptor yX7_spread.desc).map (fun d => d.parameters.length) = some 1 := by decide +kernel
theorem in_absS : Cond.static Lib.MathLoose.abs_long.x ∈ BIG := wst_abs
theorem in_absI : Cond.initialized "java/lang/Math" ∈ BIG := win_Math
theorem in_absC : Cond.code Lib.MathLoose.abs_long.x Lib.MathLoose.abs_long.code 2 (some .long) ∈ BIG := wc_abs
