def WG : List Cond := lw_tbl.filter goodWord
theorem wg_mem (i : Nat) {w : Cond} (h : lw_tbl[i]? = some w) (g : goodWord w = true) : w ∈ WG := List.mem_filter.mpr ⟨List.mem_of_getElem? h, g⟩
theorem wS_yX4_refuse : Cond.selects RX4 yX4_refuse yX4_refuse ∈ WG := wg_mem 0 (by decide +kernel) rfl
theorem wS_yX4_streetChanges : Cond.selects RX4 yX4_streetChanges yX4_streetChanges ∈ WG := wg_mem 1 (by decide +kernel) rfl
theorem wS_yX2_addLoads : Cond.selects RX2 yX2_addLoads yX2_addLoads ∈ WG := wg_mem 2 (by decide +kernel) rfl
theorem wS_yX4_isHouse : Cond.selects RX4 yX4_isHouse yX4_isHouse ∈ WG := wg_mem 3 (by decide +kernel) rfl
theorem wS_yX4_areTwoHouses : Cond.selects RX4 yX4_areTwoHouses yX4_areTwoHouses ∈ WG := wg_mem 4 (by decide +kernel) rfl
theorem wS_yX4_phasesChange : Cond.selects RX4 yX4_phasesChange yX4_phasesChange ∈ WG := wg_mem 5 (by decide +kernel) rfl
theorem wS_yX1_isFree : Cond.selects RX1 yX1_isFree yX1_isFree ∈ WG := wg_mem 6 (by decide +kernel) rfl
theorem wS_yX1_tryChanges : Cond.selects RX1 yX1_tryChanges yX1_tryChanges ∈ WG := wg_mem 7 (by decide +kernel) rfl
theorem wS_yX1_compare : Cond.selects RX1 yX1_compare yX1_compare ∈ WG := wg_mem 8 (by decide +kernel) rfl
theorem wS_yX1_trySwaps : Cond.selects RX1 yX1_trySwaps yX1_trySwaps ∈ WG := wg_mem 9 (by decide +kernel) rfl
theorem wS_yX0_findAll : Cond.selects RX0 yX0_findAll yX0_findAll ∈ WG := wg_mem 10 (by decide +kernel) rfl
theorem wS_yX0_readTakings : Cond.selects RX0 yX0_readTakings yX0_readTakings ∈ WG := wg_mem 11 (by decide +kernel) rfl
theorem wS_yX0_findTightHours : Cond.selects RX0 yX0_findTightHours yX0_findTightHours ∈ WG := wg_mem 12 (by decide +kernel) rfl
theorem wS_yX0_multiplyTakings : Cond.selects RX0 yX0_multiplyTakings yX0_multiplyTakings ∈ WG := wg_mem 13 (by decide +kernel) rfl
theorem wS_yX0_product : Cond.selects RX0 yX0_product yX0_product ∈ WG := wg_mem 14 (by decide +kernel) rfl
theorem wS_yX0_griefApart : Cond.selects RX0 yX0_griefApart yX0_griefApart ∈ WG := wg_mem 15 (by decide +kernel) rfl
theorem wS_yX0_place : Cond.selects RX0 yX0_place yX0_place ∈ WG := wg_mem 16 (by decide +kernel) rfl
theorem wS_yX0_count : Cond.selects RX0 yX0_count yX0_count ∈ WG := wg_mem 17 (by decide +kernel) rfl
theorem wS_yX0_isLaidSafe : Cond.selects RX0 yX0_isLaidSafe yX0_isLaidSafe ∈ WG := wg_mem 18 (by decide +kernel) rfl
theorem wS_yX0_meetEarlier : Cond.selects RX0 yX0_meetEarlier yX0_meetEarlier ∈ WG := wg_mem 19 (by decide +kernel) rfl
theorem wS_yX0_mayLie : Cond.selects RX0 yX0_mayLie yX0_mayLie ∈ WG := wg_mem 20 (by decide +kernel) rfl
theorem wS_yX0_addLoads : Cond.selects RX0 yX0_addLoads yX0_addLoads ∈ WG := wg_mem 21 (by decide +kernel) rfl
theorem wS_yX4_toldOf : Cond.selects RX4 yX4_toldOf yX4_toldOf ∈ WG := wg_mem 22 (by decide +kernel) rfl
theorem wS_yX5_refuses : Cond.selects RX5 yX5_refuses yX5_refuses ∈ WG := wg_mem 23 (by decide +kernel) rfl
theorem wS_yX5_isHouse : Cond.selects RX5 yX5_isHouse yX5_isHouse ∈ WG := wg_mem 24 (by decide +kernel) rfl
theorem wS_yX5_leastOf : Cond.selects RX5 yX5_leastOf yX5_leastOf ∈ WG := wg_mem 25 (by decide +kernel) rfl
theorem wS_yX5_takesOf : Cond.selects RX5 yX5_takesOf yX5_takesOf ∈ WG := wg_mem 26 (by decide +kernel) rfl
theorem wS_yX5_asIs : Cond.selects RX5 yX5_asIs yX5_asIs ∈ WG := wg_mem 27 (by decide +kernel) rfl
theorem wS_yX5_table : Cond.selects RX5 yX5_table yX5_table ∈ WG := wg_mem 28 (by decide +kernel) rfl
theorem wS_yX5_loadsNow : Cond.selects RX5 yX5_loadsNow yX5_loadsNow ∈ WG := wg_mem 29 (by decide +kernel) rfl
theorem wS_yX5_neutralNow : Cond.selects RX5 yX5_neutralNow yX5_neutralNow ∈ WG := wg_mem 30 (by decide +kernel) rfl
theorem wS_yX5_griefOf : Cond.selects RX5 yX5_griefOf yX5_griefOf ∈ WG := wg_mem 31 (by decide +kernel) rfl
theorem wS_yX5_griefNow : Cond.selects RX5 yX5_griefNow yX5_griefNow ∈ WG := wg_mem 32 (by decide +kernel) rfl
theorem wS_yX5_isSafe : Cond.selects RX5 yX5_isSafe yX5_isSafe ∈ WG := wg_mem 33 (by decide +kernel) rfl
theorem wS_yX5_isKept : Cond.selects RX5 yX5_isKept yX5_isKept ∈ WG := wg_mem 34 (by decide +kernel) rfl
theorem wS_yX5_keeps : Cond.selects RX5 yX5_keeps yX5_keeps ∈ WG := wg_mem 35 (by decide +kernel) rfl
theorem wS_yX5_swaps : Cond.selects RX5 yX5_swaps yX5_swaps ∈ WG := wg_mem 36 (by decide +kernel) rfl
theorem wS_yX5_lessens : Cond.selects RX5 yX5_lessens yX5_lessens ∈ WG := wg_mem 37 (by decide +kernel) rfl
theorem wS_yX5_finds : Cond.selects RX5 yX5_finds yX5_finds ∈ WG := wg_mem 38 (by decide +kernel) rfl
theorem wS_yX5_isFree : Cond.selects RX5 yX5_isFree yX5_isFree ∈ WG := wg_mem 39 (by decide +kernel) rfl
theorem wS_yX5_isTied : Cond.selects RX5 yX5_isTied yX5_isTied ∈ WG := wg_mem 40 (by decide +kernel) rfl
theorem wS_yX5_looks : Cond.selects RX5 yX5_looks yX5_looks ∈ WG := wg_mem 41 (by decide +kernel) rfl
theorem wS_yX5_steps : Cond.selects RX5 yX5_steps yX5_steps ∈ WG := wg_mem 42 (by decide +kernel) rfl
theorem wS_yX5_goes : Cond.selects RX5 yX5_goes yX5_goes ∈ WG := wg_mem 43 (by decide +kernel) rfl
theorem wS_yX5_meets : Cond.selects RX5 yX5_meets yX5_meets ∈ WG := wg_mem 44 (by decide +kernel) rfl
theorem wS_yX5_bestBy : Cond.selects RX5 yX5_bestBy yX5_bestBy ∈ WG := wg_mem 45 (by decide +kernel) rfl
theorem wS_yX5_toldOf : Cond.selects RX5 yX5_toldOf yX5_toldOf ∈ WG := wg_mem 46 (by decide +kernel) rfl
theorem wN_L : Cond.initialized RL ∈ WG := wg_mem 47 (by decide +kernel) rfl
theorem wN_X4 : Cond.initialized RX4 ∈ WG := wg_mem 48 (by decide +kernel) rfl
theorem wN_X2 : Cond.initialized RX2 ∈ WG := wg_mem 49 (by decide +kernel) rfl
theorem wN_J7 : Cond.initialized RJ7 ∈ WG := wg_mem 50 (by decide +kernel) rfl
theorem wN_X0 : Cond.initialized RX0 ∈ WG := wg_mem 51 (by decide +kernel) rfl
theorem wN_X1 : Cond.initialized RX1 ∈ WG := wg_mem 52 (by decide +kernel) rfl
theorem wN_X3 : Cond.initialized RX3 ∈ WG := wg_mem 53 (by decide +kernel) rfl
theorem wN_X5 : Cond.initialized RX5 ∈ WG := wg_mem 54 (by decide +kernel) rfl
theorem wN_J9 : Cond.initialized RJ9 ∈ WG := wg_mem 55 (by decide +kernel) rfl
theorem wN_J10 : Cond.initialized RJ10 ∈ WG := wg_mem 56 (by decide +kernel) rfl
theorem wL_L_7 : Cond.classLink RL 7 RX4 ∈ WG := wg_mem 57 (by decide +kernel) rfl
theorem wB_X4 : Cond.instantiable RX4 7 ∈ WG := wg_mem 58 (by decide +kernel) rfl
theorem wM_L_9 : Cond.methodLink RL 9 yX4_init ∈ WG := wg_mem 59 (by decide +kernel) rfl
theorem wI_yX4_init : Cond.instanceMethod yX4_init ∈ WG := wg_mem 60 (by decide +kernel) rfl
set_option maxRecDepth 100000 in
theorem wC_yX4_init : Cond.code yX4_init cX4_init 1 none ∈ WG := wg_mem 61 (rfl) rfl
theorem wM_X4_1 : Cond.methodLink RX4 1 objectInit ∈ WG := wg_mem 62 (by decide +kernel) rfl
theorem wI_objectInit : Cond.instanceMethod objectInit ∈ WG := wg_mem 63 (by decide +kernel) rfl
set_option maxRecDepth 100000 in
theorem wC_objectInit : Cond.code objectInit ⟨#[0xb1]⟩ 1 none ∈ WG := wg_mem 64 (rfl) rfl
theorem wL_X4_7 : Cond.classLink RX4 7 RX2 ∈ WG := wg_mem 65 (by decide +kernel) rfl
theorem wB_X2 : Cond.instantiable RX2 12 ∈ WG := wg_mem 66 (by decide +kernel) rfl
theorem wM_X4_9 : Cond.methodLink RX4 9 yX2_init ∈ WG := wg_mem 67 (by decide +kernel) rfl
theorem wI_yX2_init : Cond.instanceMethod yX2_init ∈ WG := wg_mem 68 (by decide +kernel) rfl
set_option maxRecDepth 100000 in
theorem wC_yX2_init : Cond.code yX2_init cX2_init 1 none ∈ WG := wg_mem 69 (rfl) rfl
theorem wM_X2_3 : Cond.methodLink RX2 3 objectInit ∈ WG := wg_mem 70 (by decide +kernel) rfl
theorem wM_X2_39 : Cond.methodLink RX2 39 yX2_resetLimits ∈ WG := wg_mem 71 (by decide +kernel) rfl
theorem wI_yX2_resetLimits : Cond.instanceMethod yX2_resetLimits ∈ WG := wg_mem 72 (by decide +kernel) rfl
theorem wS_yX2_resetLimits : Cond.selects RX2 yX2_resetLimits yX2_resetLimits ∈ WG := wg_mem 73 (by decide +kernel) rfl
set_option maxRecDepth 100000 in
theorem wC_yX2_resetLimits : Cond.code yX2_resetLimits cX2_resetLimits 1 none ∈ WG := wg_mem 74 (rfl) rfl
theorem wM_X2_42 : Cond.methodLink RX2 42 yJ7_fill_53178 ∈ WG := wg_mem 75 (by decide +kernel) rfl
theorem wT_yJ7_fill_53178 : Cond.static yJ7_fill_53178 ∈ WG := wg_mem 76 (by decide +kernel) rfl
set_option maxRecDepth 100000 in
theorem wC_yJ7_fill_53178 : Cond.code yJ7_fill_53178 cJ7_fill_53178 4 none ∈ WG := wg_mem 77 (rfl) rfl
theorem wF_X2_9 : Cond.fieldLink RX2 9 "PhaseLoads$Street" "sorts" "[I" ∈ WG := wg_mem 78 (by decide +kernel) rfl
theorem wF_X4_129 : Cond.fieldLink RX4 129 "PhaseLoads$Street" "sorts" "[I" ∈ WG := wg_mem 79 (by decide +kernel) rfl
theorem wF_X2_15 : Cond.fieldLink RX2 15 "PhaseLoads$Street" "sizes" "[I" ∈ WG := wg_mem 80 (by decide +kernel) rfl
theorem wF_X4_132 : Cond.fieldLink RX4 132 "PhaseLoads$Street" "sizes" "[I" ∈ WG := wg_mem 81 (by decide +kernel) rfl
theorem wF_X2_18 : Cond.fieldLink RX2 18 "PhaseLoads$Street" "phases" "[I" ∈ WG := wg_mem 82 (by decide +kernel) rfl
theorem wF_X1_66 : Cond.fieldLink RX1 66 "PhaseLoads$Street" "phases" "[I" ∈ WG := wg_mem 83 (by decide +kernel) rfl
theorem wF_X4_135 : Cond.fieldLink RX4 135 "PhaseLoads$Street" "phases" "[I" ∈ WG := wg_mem 84 (by decide +kernel) rfl
theorem wF_X0_121 : Cond.fieldLink RX0 121 "PhaseLoads$Street" "phases" "[I" ∈ WG := wg_mem 85 (by decide +kernel) rfl
theorem wF_X2_21 : Cond.fieldLink RX2 21 "PhaseLoads$Street" "fixed" "[I" ∈ WG := wg_mem 86 (by decide +kernel) rfl
theorem wF_X1_59 : Cond.fieldLink RX1 59 "PhaseLoads$Street" "fixed" "[I" ∈ WG := wg_mem 87 (by decide +kernel) rfl
theorem wF_X4_138 : Cond.fieldLink RX4 138 "PhaseLoads$Street" "fixed" "[I" ∈ WG := wg_mem 88 (by decide +kernel) rfl
theorem wF_X0_124 : Cond.fieldLink RX0 124 "PhaseLoads$Street" "fixed" "[I" ∈ WG := wg_mem 89 (by decide +kernel) rfl
theorem wF_X2_24 : Cond.fieldLink RX2 24 "PhaseLoads$Street" "leastTied" "[I" ∈ WG := wg_mem 90 (by decide +kernel) rfl
theorem wF_X4_91 : Cond.fieldLink RX4 91 "PhaseLoads$Street" "leastTied" "[I" ∈ WG := wg_mem 91 (by decide +kernel) rfl
theorem wF_X0_127 : Cond.fieldLink RX0 127 "PhaseLoads$Street" "leastTied" "[I" ∈ WG := wg_mem 92 (by decide +kernel) rfl
theorem wF_X2_27 : Cond.fieldLink RX2 27 "PhaseLoads$Street" "pairHouse" "[I" ∈ WG := wg_mem 93 (by decide +kernel) rfl
theorem wF_X4_243 : Cond.fieldLink RX4 243 "PhaseLoads$Street" "pairHouse" "[I" ∈ WG := wg_mem 94 (by decide +kernel) rfl
theorem wF_X2_30 : Cond.fieldLink RX2 30 "PhaseLoads$Street" "pairOther" "[I" ∈ WG := wg_mem 95 (by decide +kernel) rfl
theorem wF_X4_246 : Cond.fieldLink RX4 246 "PhaseLoads$Street" "pairOther" "[I" ∈ WG := wg_mem 96 (by decide +kernel) rfl
theorem wF_X2_33 : Cond.fieldLink RX2 33 "PhaseLoads$Street" "weights" "[I" ∈ WG := wg_mem 97 (by decide +kernel) rfl
theorem wF_X4_81 : Cond.fieldLink RX4 81 "PhaseLoads$Street" "weights" "[I" ∈ WG := wg_mem 98 (by decide +kernel) rfl
theorem wF_X0_103 : Cond.fieldLink RX0 103 "PhaseLoads$Street" "weights" "[I" ∈ WG := wg_mem 99 (by decide +kernel) rfl
theorem wF_X2_36 : Cond.fieldLink RX2 36 "PhaseLoads$Street" "loads" "[I" ∈ WG := wg_mem 100 (by decide +kernel) rfl
theorem wF_X1_19 : Cond.fieldLink RX1 19 "PhaseLoads$Street" "houses" "I" ∈ WG := wg_mem 101 (by decide +kernel) rfl
theorem wF_X4_53 : Cond.fieldLink RX4 53 "PhaseLoads$Street" "houses" "I" ∈ WG := wg_mem 102 (by decide +kernel) rfl
theorem wF_X2_52 : Cond.fieldLink RX2 52 "PhaseLoads$Street" "houses" "I" ∈ WG := wg_mem 103 (by decide +kernel) rfl
theorem wF_X0_80 : Cond.fieldLink RX0 80 "PhaseLoads$Street" "houses" "I" ∈ WG := wg_mem 104 (by decide +kernel) rfl
theorem wF_X4_94 : Cond.fieldLink RX4 94 "PhaseLoads$Street" "pairs" "I" ∈ WG := wg_mem 105 (by decide +kernel) rfl
theorem wF_X2_69 : Cond.fieldLink RX2 69 "PhaseLoads$Street" "pairs" "I" ∈ WG := wg_mem 106 (by decide +kernel) rfl
theorem wF_X2_48 : Cond.fieldLink RX2 48 "PhaseLoads$Street" "fuse" "I" ∈ WG := wg_mem 107 (by decide +kernel) rfl
theorem wF_X4_85 : Cond.fieldLink RX4 85 "PhaseLoads$Street" "fuse" "I" ∈ WG := wg_mem 108 (by decide +kernel) rfl
theorem wF_X0_97 : Cond.fieldLink RX0 97 "PhaseLoads$Street" "fuse" "I" ∈ WG := wg_mem 109 (by decide +kernel) rfl
theorem wA_int : Cond.arrayClass .int ∈ WG := wg_mem 135 (by decide +kernel) rfl
theorem wL_X4_16 : Cond.classLink RX4 16 RX0 ∈ WG := wg_mem 136 (by decide +kernel) rfl
theorem wB_X0 : Cond.instantiable RX0 14 ∈ WG := wg_mem 137 (by decide +kernel) rfl
theorem wM_X4_18 : Cond.methodLink RX4 18 yX0_init ∈ WG := wg_mem 138 (by decide +kernel) rfl
theorem wI_yX0_init : Cond.instanceMethod yX0_init ∈ WG := wg_mem 139 (by decide +kernel) rfl
set_option maxRecDepth 100000 in
theorem wC_yX0_init : Cond.code yX0_init cX0_init 2 none ∈ WG := wg_mem 140 (rfl) rfl
theorem wM_X0_3 : Cond.methodLink RX0 3 objectInit ∈ WG := wg_mem 141 (by decide +kernel) rfl
theorem wF_X0_9 : Cond.fieldLink RX0 9 "PhaseLoads$Layings" "least" "[I" ∈ WG := wg_mem 142 (by decide +kernel) rfl
theorem wF_X4_205 : Cond.fieldLink RX4 205 "PhaseLoads$Layings" "least" "[I" ∈ WG := wg_mem 143 (by decide +kernel) rfl
theorem wF_X0_15 : Cond.fieldLink RX0 15 "PhaseLoads$Layings" "first" "[I" ∈ WG := wg_mem 144 (by decide +kernel) rfl
theorem wF_X4_189 : Cond.fieldLink RX4 189 "PhaseLoads$Layings" "first" "[I" ∈ WG := wg_mem 145 (by decide +kernel) rfl
theorem wF_X0_57 : Cond.fieldLink RX0 57 "PhaseLoads$Layings" "alike" "I" ∈ WG := wg_mem 146 (by decide +kernel) rfl
theorem wF_X4_208 : Cond.fieldLink RX4 208 "PhaseLoads$Layings" "alike" "I" ∈ WG := wg_mem 147 (by decide +kernel) rfl
theorem wF_X0_36 : Cond.fieldLink RX0 36 "PhaseLoads$Layings" "street" "LPhaseLoads$Street;" ∈ WG := wg_mem 148 (by decide +kernel) rfl
theorem wF_X0_18 : Cond.fieldLink RX0 18 "PhaseLoads$Layings" "laid" "[I" ∈ WG := wg_mem 149 (by decide +kernel) rfl
theorem wF_X0_21 : Cond.fieldLink RX0 21 "PhaseLoads$Layings" "takings" "[I" ∈ WG := wg_mem 150 (by decide +kernel) rfl
theorem wF_X0_24 : Cond.fieldLink RX0 24 "PhaseLoads$Layings" "products" "[I" ∈ WG := wg_mem 151 (by decide +kernel) rfl
theorem wF_X0_27 : Cond.fieldLink RX0 27 "PhaseLoads$Layings" "met" "[I" ∈ WG := wg_mem 152 (by decide +kernel) rfl
theorem wF_X0_30 : Cond.fieldLink RX0 30 "PhaseLoads$Layings" "loads" "[I" ∈ WG := wg_mem 153 (by decide +kernel) rfl
theorem wF_X0_33 : Cond.fieldLink RX0 33 "PhaseLoads$Layings" "tightHours" "[I" ∈ WG := wg_mem 154 (by decide +kernel) rfl
theorem wF_X0_89 : Cond.fieldLink RX0 89 "PhaseLoads$Layings" "tight" "I" ∈ WG := wg_mem 155 (by decide +kernel) rfl
theorem wF_X0_47 : Cond.fieldLink RX0 47 "PhaseLoads$Layings" "total" "I" ∈ WG := wg_mem 156 (by decide +kernel) rfl
theorem wF_X0_60 : Cond.fieldLink RX0 60 "PhaseLoads$Layings" "leastOfAll" "I" ∈ WG := wg_mem 157 (by decide +kernel) rfl
theorem wF_X0_40 : Cond.fieldLink RX0 40 "PhaseLoads$Layings" "found" "Z" ∈ WG := wg_mem 158 (by decide +kernel) rfl
theorem wL_X4_25 : Cond.classLink RX4 25 RX1 ∈ WG := wg_mem 188 (by decide +kernel) rfl
theorem wB_X1 : Cond.instantiable RX1 6 ∈ WG := wg_mem 189 (by decide +kernel) rfl
theorem wM_X4_27 : Cond.methodLink RX4 27 yX1_init ∈ WG := wg_mem 190 (by decide +kernel) rfl
theorem wI_yX1_init : Cond.instanceMethod yX1_init ∈ WG := wg_mem 191 (by decide +kernel) rfl
set_option maxRecDepth 100000 in
theorem wC_yX1_init : Cond.code yX1_init cX1_init 2 none ∈ WG := wg_mem 192 (rfl) rfl
theorem wM_X1_3 : Cond.methodLink RX1 3 objectInit ∈ WG := wg_mem 193 (by decide +kernel) rfl
theorem wF_X1_15 : Cond.fieldLink RX1 15 "PhaseLoads$Steps" "found" "Z" ∈ WG := wg_mem 194 (by decide +kernel) rfl
theorem wF_X4_220 : Cond.fieldLink RX4 220 "PhaseLoads$Steps" "found" "Z" ∈ WG := wg_mem 195 (by decide +kernel) rfl
theorem wF_X1_36 : Cond.fieldLink RX1 36 "PhaseLoads$Steps" "grief" "I" ∈ WG := wg_mem 196 (by decide +kernel) rfl
theorem wF_X4_224 : Cond.fieldLink RX4 224 "PhaseLoads$Steps" "grief" "I" ∈ WG := wg_mem 197 (by decide +kernel) rfl
theorem wF_X1_43 : Cond.fieldLink RX1 43 "PhaseLoads$Steps" "kind" "I" ∈ WG := wg_mem 198 (by decide +kernel) rfl
theorem wF_X4_227 : Cond.fieldLink RX4 227 "PhaseLoads$Steps" "kind" "I" ∈ WG := wg_mem 199 (by decide +kernel) rfl
theorem wF_X1_46 : Cond.fieldLink RX1 46 "PhaseLoads$Steps" "house" "I" ∈ WG := wg_mem 200 (by decide +kernel) rfl
theorem wF_X4_230 : Cond.fieldLink RX4 230 "PhaseLoads$Steps" "house" "I" ∈ WG := wg_mem 201 (by decide +kernel) rfl
theorem wF_X1_49 : Cond.fieldLink RX1 49 "PhaseLoads$Steps" "other" "I" ∈ WG := wg_mem 202 (by decide +kernel) rfl
theorem wF_X4_233 : Cond.fieldLink RX4 233 "PhaseLoads$Steps" "other" "I" ∈ WG := wg_mem 203 (by decide +kernel) rfl
theorem wF_X1_9 : Cond.fieldLink RX1 9 "PhaseLoads$Steps" "street" "LPhaseLoads$Street;" ∈ WG := wg_mem 204 (by decide +kernel) rfl
theorem wL_X4_32 : Cond.classLink RX4 32 RX3 ∈ WG := wg_mem 218 (by decide +kernel) rfl
theorem wB_X3 : Cond.instantiable RX3 2 ∈ WG := wg_mem 219 (by decide +kernel) rfl
theorem wI_yX3_init : Cond.instanceMethod yX3_init ∈ WG := wg_mem 221 (by decide +kernel) rfl
set_option maxRecDepth 100000 in
theorem wC_yX3_init : Cond.code yX3_init cX3_init 1 none ∈ WG := wg_mem 222 (rfl) rfl
theorem wM_X3_3 : Cond.methodLink RX3 3 objectInit ∈ WG := wg_mem 223 (by decide +kernel) rfl
theorem wF_X3_15 : Cond.fieldLink RX3 15 "PhaseLoads$Undos" "count" "I" ∈ WG := wg_mem 224 (by decide +kernel) rfl
theorem wF_X4_196 : Cond.fieldLink RX4 196 "PhaseLoads$Undos" "count" "I" ∈ WG := wg_mem 225 (by decide +kernel) rfl
theorem wF_X3_9 : Cond.fieldLink RX3 9 "PhaseLoads$Undos" "layingsAhead" "[I" ∈ WG := wg_mem 226 (by decide +kernel) rfl
theorem wF_X4_10 : Cond.fieldLink RX4 10 "PhaseLoads" "street" "LPhaseLoads$Street;" ∈ WG := wg_mem 232 (by decide +kernel) rfl
theorem wF_X4_21 : Cond.fieldLink RX4 21 "PhaseLoads" "layings" "LPhaseLoads$Layings;" ∈ WG := wg_mem 233 (by decide +kernel) rfl
theorem wF_X4_28 : Cond.fieldLink RX4 28 "PhaseLoads" "steps" "LPhaseLoads$Steps;" ∈ WG := wg_mem 234 (by decide +kernel) rfl
theorem wF_X4_35 : Cond.fieldLink RX4 35 "PhaseLoads" "undos" "LPhaseLoads$Undos;" ∈ WG := wg_mem 235 (by decide +kernel) rfl
theorem wF_X4_249 : Cond.fieldLink RX4 249 "PhaseLoads" "bads" "I" ∈ WG := wg_mem 236 (by decide +kernel) rfl
theorem wF_X4_252 : Cond.fieldLink RX4 252 "PhaseLoads" "noes" "I" ∈ WG := wg_mem 237 (by decide +kernel) rfl
theorem wF_X4_255 : Cond.fieldLink RX4 255 "PhaseLoads" "fulls" "I" ∈ WG := wg_mem 238 (by decide +kernel) rfl
theorem wM_L_13 : Cond.methodLink RL 13 yX4_house ∈ WG := wg_mem 254 (by decide +kernel) rfl
theorem wI_yX4_house : Cond.instanceMethod yX4_house ∈ WG := wg_mem 255 (by decide +kernel) rfl
theorem wS_yX4_house : Cond.selects RX4 yX4_house yX4_house ∈ WG := wg_mem 256 (by decide +kernel) rfl
set_option maxRecDepth 100000 in
theorem wC_yX4_house : Cond.code yX4_house cX4_house 4 (some .int) ∈ WG := wg_mem 257 (rfl) rfl
theorem wM_X4_39 : Cond.methodLink RX4 39 yX4_isSort ∈ WG := wg_mem 258 (by decide +kernel) rfl
theorem wT_yX4_isSort : Cond.static yX4_isSort ∈ WG := wg_mem 259 (by decide +kernel) rfl
set_option maxRecDepth 100000 in
theorem wC_yX4_isSort : Cond.code yX4_isSort cX4_isSort 1 (some .boolean) ∈ WG := wg_mem 260 (rfl) rfl
theorem wM_X4_77 : Cond.methodLink RX4 77 yX4_isIn ∈ WG := wg_mem 261 (by decide +kernel) rfl
theorem wT_yX4_isIn : Cond.static yX4_isIn ∈ WG := wg_mem 262 (by decide +kernel) rfl
set_option maxRecDepth 100000 in
theorem wC_yX4_isIn : Cond.code yX4_isIn cX4_isIn 3 (some .boolean) ∈ WG := wg_mem 263 (rfl) rfl
theorem wM_X4_43 : Cond.methodLink RX4 43 yX4_isSize ∈ WG := wg_mem 264 (by decide +kernel) rfl
theorem wT_yX4_isSize : Cond.static yX4_isSize ∈ WG := wg_mem 265 (by decide +kernel) rfl
set_option maxRecDepth 100000 in
theorem wC_yX4_isSize : Cond.code yX4_isSize cX4_isSize 1 (some .boolean) ∈ WG := wg_mem 266 (rfl) rfl
theorem wM_X4_46 : Cond.methodLink RX4 46 yX4_isPhase ∈ WG := wg_mem 267 (by decide +kernel) rfl
theorem wT_yX4_isPhase : Cond.static yX4_isPhase ∈ WG := wg_mem 268 (by decide +kernel) rfl
set_option maxRecDepth 100000 in
theorem wC_yX4_isPhase : Cond.code yX4_isPhase cX4_isPhase 1 (some .boolean) ∈ WG := wg_mem 269 (rfl) rfl
theorem wM_X4_49 : Cond.methodLink RX4 49 yX4_refuse ∈ WG := wg_mem 270 (by decide +kernel) rfl
theorem wI_yX4_refuse : Cond.instanceMethod yX4_refuse ∈ WG := wg_mem 272 (by decide +kernel) rfl
set_option maxRecDepth 100000 in
theorem wC_yX4_refuse : Cond.code yX4_refuse cX4_refuse 2 (some .int) ∈ WG := wg_mem 273 (rfl) rfl
theorem wM_X4_57 : Cond.methodLink RX4 57 yX4_streetChanges ∈ WG := wg_mem 274 (by decide +kernel) rfl
theorem wI_yX4_streetChanges : Cond.instanceMethod yX4_streetChanges ∈ WG := wg_mem 276 (by decide +kernel) rfl
set_option maxRecDepth 100000 in
theorem wC_yX4_streetChanges : Cond.code yX4_streetChanges cX4_streetChanges 1 none ∈ WG := wg_mem 277 (rfl) rfl
theorem wM_X4_202 : Cond.methodLink RX4 202 yX0_forget ∈ WG := wg_mem 278 (by decide +kernel) rfl
theorem wI_yX0_forget : Cond.instanceMethod yX0_forget ∈ WG := wg_mem 279 (by decide +kernel) rfl
theorem wS_yX0_forget : Cond.selects RX0 yX0_forget yX0_forget ∈ WG := wg_mem 280 (by decide +kernel) rfl
set_option maxRecDepth 100000 in
theorem wC_yX0_forget : Cond.code yX0_forget cX0_forget 1 none ∈ WG := wg_mem 281 (rfl) rfl
theorem wM_X4_60 : Cond.methodLink RX4 60 yX2_addHouse ∈ WG := wg_mem 282 (by decide +kernel) rfl
theorem wI_yX2_addHouse : Cond.instanceMethod yX2_addHouse ∈ WG := wg_mem 283 (by decide +kernel) rfl
theorem wS_yX2_addHouse : Cond.selects RX2 yX2_addHouse yX2_addHouse ∈ WG := wg_mem 284 (by decide +kernel) rfl
set_option maxRecDepth 100000 in
theorem wC_yX2_addHouse : Cond.code yX2_addHouse cX2_addHouse 5 (some .int) ∈ WG := wg_mem 285 (rfl) rfl
theorem wM_X2_55 : Cond.methodLink RX2 55 yX2_addLoads ∈ WG := wg_mem 286 (by decide +kernel) rfl
theorem wI_yX2_addLoads : Cond.instanceMethod yX2_addLoads ∈ WG := wg_mem 288 (by decide +kernel) rfl
set_option maxRecDepth 100000 in
theorem wC_yX2_addLoads : Cond.code yX2_addLoads cX2_addLoads 4 none ∈ WG := wg_mem 289 (rfl) rfl
theorem wM_X2_65 : Cond.methodLink RX2 65 yX2_takenBy ∈ WG := wg_mem 290 (by decide +kernel) rfl
theorem wI_yX2_takenBy : Cond.instanceMethod yX2_takenBy ∈ WG := wg_mem 291 (by decide +kernel) rfl
theorem wS_yX2_takenBy : Cond.selects RX2 yX2_takenBy yX2_takenBy ∈ WG := wg_mem 292 (by decide +kernel) rfl
set_option maxRecDepth 100000 in
theorem wC_yX2_takenBy : Cond.code yX2_takenBy cX2_takenBy 3 (some .int) ∈ WG := wg_mem 293 (rfl) rfl
theorem wM_L_18 : Cond.methodLink RL 18 yX4_sets ∈ WG := wg_mem 296 (by decide +kernel) rfl
theorem wI_yX4_sets : Cond.instanceMethod yX4_sets ∈ WG := wg_mem 297 (by decide +kernel) rfl
theorem wS_yX4_sets : Cond.selects RX4 yX4_sets yX4_sets ∈ WG := wg_mem 298 (by decide +kernel) rfl
set_option maxRecDepth 100000 in
theorem wC_yX4_sets : Cond.code yX4_sets cX4_sets 4 (some .int) ∈ WG := wg_mem 299 (rfl) rfl
theorem wM_X4_64 : Cond.methodLink RX4 64 yX4_isHouse ∈ WG := wg_mem 300 (by decide +kernel) rfl
theorem wI_yX4_isHouse : Cond.instanceMethod yX4_isHouse ∈ WG := wg_mem 302 (by decide +kernel) rfl
set_option maxRecDepth 100000 in
theorem wC_yX4_isHouse : Cond.code yX4_isHouse cX4_isHouse 2 (some .boolean) ∈ WG := wg_mem 303 (rfl) rfl
theorem wM_X4_67 : Cond.methodLink RX4 67 yX4_isSetting ∈ WG := wg_mem 304 (by decide +kernel) rfl
theorem wT_yX4_isSetting : Cond.static yX4_isSetting ∈ WG := wg_mem 305 (by decide +kernel) rfl
set_option maxRecDepth 100000 in
theorem wC_yX4_isSetting : Cond.code yX4_isSetting cX4_isSetting 2 (some .boolean) ∈ WG := wg_mem 306 (rfl) rfl
theorem wM_X4_71 : Cond.methodLink RX4 71 yX2_setHouse ∈ WG := wg_mem 307 (by decide +kernel) rfl
theorem wI_yX2_setHouse : Cond.instanceMethod yX2_setHouse ∈ WG := wg_mem 308 (by decide +kernel) rfl
theorem wS_yX2_setHouse : Cond.selects RX2 yX2_setHouse yX2_setHouse ∈ WG := wg_mem 309 (by decide +kernel) rfl
set_option maxRecDepth 100000 in
theorem wC_yX2_setHouse : Cond.code yX2_setHouse cX2_setHouse 6 (some .int) ∈ WG := wg_mem 310 (rfl) rfl
theorem wM_L_22 : Cond.methodLink RL 22 yX4_weight ∈ WG := wg_mem 311 (by decide +kernel) rfl
theorem wI_yX4_weight : Cond.instanceMethod yX4_weight ∈ WG := wg_mem 312 (by decide +kernel) rfl
theorem wS_yX4_weight : Cond.selects RX4 yX4_weight yX4_weight ∈ WG := wg_mem 313 (by decide +kernel) rfl
set_option maxRecDepth 100000 in
theorem wC_yX4_weight : Cond.code yX4_weight cX4_weight 4 (some .int) ∈ WG := wg_mem 314 (rfl) rfl
theorem wM_X4_74 : Cond.methodLink RX4 74 yX4_isHour ∈ WG := wg_mem 315 (by decide +kernel) rfl
theorem wT_yX4_isHour : Cond.static yX4_isHour ∈ WG := wg_mem 316 (by decide +kernel) rfl
set_option maxRecDepth 100000 in
theorem wC_yX4_isHour : Cond.code yX4_isHour cX4_isHour 1 (some .boolean) ∈ WG := wg_mem 317 (rfl) rfl
theorem wM_L_27 : Cond.methodLink RL 27 yX4_fuse ∈ WG := wg_mem 318 (by decide +kernel) rfl
theorem wI_yX4_fuse : Cond.instanceMethod yX4_fuse ∈ WG := wg_mem 319 (by decide +kernel) rfl
theorem wS_yX4_fuse : Cond.selects RX4 yX4_fuse yX4_fuse ∈ WG := wg_mem 320 (by decide +kernel) rfl
set_option maxRecDepth 100000 in
theorem wC_yX4_fuse : Cond.code yX4_fuse cX4_fuse 3 (some .int) ∈ WG := wg_mem 321 (rfl) rfl
theorem wM_L_32 : Cond.methodLink RL 32 yX4_tie ∈ WG := wg_mem 322 (by decide +kernel) rfl
theorem wI_yX4_tie : Cond.instanceMethod yX4_tie ∈ WG := wg_mem 323 (by decide +kernel) rfl
theorem wS_yX4_tie : Cond.selects RX4 yX4_tie yX4_tie ∈ WG := wg_mem 324 (by decide +kernel) rfl
set_option maxRecDepth 100000 in
theorem wC_yX4_tie : Cond.code yX4_tie cX4_tie 3 (some .int) ∈ WG := wg_mem 325 (rfl) rfl
theorem wM_X4_88 : Cond.methodLink RX4 88 yX4_areTwoHouses ∈ WG := wg_mem 326 (by decide +kernel) rfl
theorem wI_yX4_areTwoHouses : Cond.instanceMethod yX4_areTwoHouses ∈ WG := wg_mem 328 (by decide +kernel) rfl
set_option maxRecDepth 100000 in
theorem wC_yX4_areTwoHouses : Cond.code yX4_areTwoHouses cX4_areTwoHouses 3 (some .boolean) ∈ WG := wg_mem 329 (rfl) rfl
theorem wM_X4_97 : Cond.methodLink RX4 97 yX2_addPair ∈ WG := wg_mem 330 (by decide +kernel) rfl
theorem wI_yX2_addPair : Cond.instanceMethod yX2_addPair ∈ WG := wg_mem 331 (by decide +kernel) rfl
theorem wS_yX2_addPair : Cond.selects RX2 yX2_addPair yX2_addPair ∈ WG := wg_mem 332 (by decide +kernel) rfl
set_option maxRecDepth 100000 in
theorem wC_yX2_addPair : Cond.code yX2_addPair cX2_addPair 6 none ∈ WG := wg_mem 333 (rfl) rfl
theorem wM_X2_72 : Cond.methodLink RX2 72 yJ9_min_7cf53 ∈ WG := wg_mem 334 (by decide +kernel) rfl
theorem wT_yJ9_min_7cf53 : Cond.static yJ9_min_7cf53 ∈ WG := wg_mem 335 (by decide +kernel) rfl
set_option maxRecDepth 100000 in
theorem wC_yJ9_min_7cf53 : Cond.code yJ9_min_7cf53 cJ9_min_7cf53 2 (some .int) ∈ WG := wg_mem 336 (rfl) rfl
theorem wM_X2_77 : Cond.methodLink RX2 77 yJ9_max_7cf53 ∈ WG := wg_mem 337 (by decide +kernel) rfl
theorem wT_yJ9_max_7cf53 : Cond.static yJ9_max_7cf53 ∈ WG := wg_mem 338 (by decide +kernel) rfl
set_option maxRecDepth 100000 in
theorem wC_yJ9_max_7cf53 : Cond.code yJ9_max_7cf53 cJ9_max_7cf53 2 (some .int) ∈ WG := wg_mem 339 (rfl) rfl
theorem wM_L_36 : Cond.methodLink RL 36 yX4_loosens ∈ WG := wg_mem 340 (by decide +kernel) rfl
theorem wI_yX4_loosens : Cond.instanceMethod yX4_loosens ∈ WG := wg_mem 341 (by decide +kernel) rfl
theorem wS_yX4_loosens : Cond.selects RX4 yX4_loosens yX4_loosens ∈ WG := wg_mem 342 (by decide +kernel) rfl
set_option maxRecDepth 100000 in
theorem wC_yX4_loosens : Cond.code yX4_loosens cX4_loosens 2 (some .int) ∈ WG := wg_mem 343 (rfl) rfl
theorem wM_X4_101 : Cond.methodLink RX4 101 yX2_dropPairs ∈ WG := wg_mem 344 (by decide +kernel) rfl
theorem wI_yX2_dropPairs : Cond.instanceMethod yX2_dropPairs ∈ WG := wg_mem 345 (by decide +kernel) rfl
theorem wS_yX2_dropPairs : Cond.selects RX2 yX2_dropPairs yX2_dropPairs ∈ WG := wg_mem 346 (by decide +kernel) rfl
set_option maxRecDepth 100000 in
theorem wC_yX2_dropPairs : Cond.code yX2_dropPairs cX2_dropPairs 2 none ∈ WG := wg_mem 347 (rfl) rfl
theorem wM_L_41 : Cond.methodLink RL 41 yX4_anew ∈ WG := wg_mem 348 (by decide +kernel) rfl
theorem wI_yX4_anew : Cond.instanceMethod yX4_anew ∈ WG := wg_mem 349 (by decide +kernel) rfl
theorem wS_yX4_anew : Cond.selects RX4 yX4_anew yX4_anew ∈ WG := wg_mem 350 (by decide +kernel) rfl
set_option maxRecDepth 100000 in
theorem wC_yX4_anew : Cond.code yX4_anew cX4_anew 2 (some .int) ∈ WG := wg_mem 351 (rfl) rfl
theorem wM_X4_104 : Cond.methodLink RX4 104 yX2_dropHouses ∈ WG := wg_mem 352 (by decide +kernel) rfl
theorem wI_yX2_dropHouses : Cond.instanceMethod yX2_dropHouses ∈ WG := wg_mem 353 (by decide +kernel) rfl
theorem wS_yX2_dropHouses : Cond.selects RX2 yX2_dropHouses yX2_dropHouses ∈ WG := wg_mem 354 (by decide +kernel) rfl
set_option maxRecDepth 100000 in
theorem wC_yX2_dropHouses : Cond.code yX2_dropHouses cX2_dropHouses 1 none ∈ WG := wg_mem 355 (rfl) rfl
theorem wM_X2_59 : Cond.methodLink RX2 59 yX2_dropPairs ∈ WG := wg_mem 356 (by decide +kernel) rfl
theorem wM_X4_107 : Cond.methodLink RX4 107 yX2_resetLimits ∈ WG := wg_mem 357 (by decide +kernel) rfl
theorem wM_L_45 : Cond.methodLink RL 45 yX4_draw ∈ WG := wg_mem 358 (by decide +kernel) rfl
theorem wI_yX4_draw : Cond.instanceMethod yX4_draw ∈ WG := wg_mem 359 (by decide +kernel) rfl
theorem wS_yX4_draw : Cond.selects RX4 yX4_draw yX4_draw ∈ WG := wg_mem 360 (by decide +kernel) rfl
set_option maxRecDepth 100000 in
theorem wC_yX4_draw : Cond.code yX4_draw cX4_draw 6 (some .int) ∈ WG := wg_mem 361 (rfl) rfl
theorem wK_X4_110 : Cond.constant RX4 110 (999999) ∈ WG := wg_mem 362 (by decide +kernel) rfl
theorem wK_X4_111 : Cond.constantLong RX4 111 (1103515245) ∈ WG := wg_mem 363 (by decide +kernel) rfl
theorem wK_X4_113 : Cond.constantLong RX4 113 (12345) ∈ WG := wg_mem 364 (by decide +kernel) rfl
theorem wK_X4_115 : Cond.constantLong RX4 115 (2147483648) ∈ WG := wg_mem 365 (by decide +kernel) rfl
theorem wK_X4_117 : Cond.constantLong RX4 117 (65536) ∈ WG := wg_mem 366 (by decide +kernel) rfl
theorem wK_X4_119 : Cond.constantLong RX4 119 (6) ∈ WG := wg_mem 367 (by decide +kernel) rfl
theorem wK_X4_121 : Cond.constantLong RX4 121 (1024) ∈ WG := wg_mem 368 (by decide +kernel) rfl
theorem wK_X4_123 : Cond.constantLong RX4 123 (20) ∈ WG := wg_mem 369 (by decide +kernel) rfl
theorem wK_X4_125 : Cond.constantLong RX4 125 (32768) ∈ WG := wg_mem 370 (by decide +kernel) rfl
theorem wK_X4_127 : Cond.constantLong RX4 127 (3) ∈ WG := wg_mem 371 (by decide +kernel) rfl
theorem wM_L_49 : Cond.methodLink RL 49 yX4_of ∈ WG := wg_mem 372 (by decide +kernel) rfl
theorem wI_yX4_of : Cond.instanceMethod yX4_of ∈ WG := wg_mem 373 (by decide +kernel) rfl
theorem wS_yX4_of : Cond.selects RX4 yX4_of yX4_of ∈ WG := wg_mem 374 (by decide +kernel) rfl
set_option maxRecDepth 100000 in
theorem wC_yX4_of : Cond.code yX4_of cX4_of 3 (some .int) ∈ WG := wg_mem 375 (rfl) rfl
theorem wM_L_53 : Cond.methodLink RL 53 yX4_takes ∈ WG := wg_mem 376 (by decide +kernel) rfl
theorem wI_yX4_takes : Cond.instanceMethod yX4_takes ∈ WG := wg_mem 377 (by decide +kernel) rfl
theorem wS_yX4_takes : Cond.selects RX4 yX4_takes yX4_takes ∈ WG := wg_mem 378 (by decide +kernel) rfl
set_option maxRecDepth 100000 in
theorem wC_yX4_takes : Cond.code yX4_takes cX4_takes 3 (some .int) ∈ WG := wg_mem 379 (rfl) rfl
theorem wM_X4_141 : Cond.methodLink RX4 141 yX2_takenBy ∈ WG := wg_mem 380 (by decide +kernel) rfl
theorem wM_L_57 : Cond.methodLink RL 57 yX4_load ∈ WG := wg_mem 381 (by decide +kernel) rfl
theorem wI_yX4_load : Cond.instanceMethod yX4_load ∈ WG := wg_mem 382 (by decide +kernel) rfl
theorem wS_yX4_load : Cond.selects RX4 yX4_load yX4_load ∈ WG := wg_mem 383 (by decide +kernel) rfl
set_option maxRecDepth 100000 in
theorem wC_yX4_load : Cond.code yX4_load cX4_load 3 (some .int) ∈ WG := wg_mem 384 (rfl) rfl
theorem wM_X4_145 : Cond.methodLink RX4 145 yX2_loadOf ∈ WG := wg_mem 385 (by decide +kernel) rfl
theorem wI_yX2_loadOf : Cond.instanceMethod yX2_loadOf ∈ WG := wg_mem 386 (by decide +kernel) rfl
theorem wS_yX2_loadOf : Cond.selects RX2 yX2_loadOf yX2_loadOf ∈ WG := wg_mem 387 (by decide +kernel) rfl
set_option maxRecDepth 100000 in
theorem wC_yX2_loadOf : Cond.code yX2_loadOf cX2_loadOf 3 (some .int) ∈ WG := wg_mem 388 (rfl) rfl
theorem wM_L_61 : Cond.methodLink RL 61 yX4_neutral ∈ WG := wg_mem 389 (by decide +kernel) rfl
theorem wI_yX4_neutral : Cond.instanceMethod yX4_neutral ∈ WG := wg_mem 390 (by decide +kernel) rfl
theorem wS_yX4_neutral : Cond.selects RX4 yX4_neutral yX4_neutral ∈ WG := wg_mem 391 (by decide +kernel) rfl
set_option maxRecDepth 100000 in
theorem wC_yX4_neutral : Cond.code yX4_neutral cX4_neutral 2 (some .int) ∈ WG := wg_mem 392 (rfl) rfl
theorem wM_X4_148 : Cond.methodLink RX4 148 yX2_neutralOf ∈ WG := wg_mem 393 (by decide +kernel) rfl
theorem wI_yX2_neutralOf : Cond.instanceMethod yX2_neutralOf ∈ WG := wg_mem 394 (by decide +kernel) rfl
theorem wS_yX2_neutralOf : Cond.selects RX2 yX2_neutralOf yX2_neutralOf ∈ WG := wg_mem 395 (by decide +kernel) rfl
set_option maxRecDepth 100000 in
theorem wC_yX2_neutralOf : Cond.code yX2_neutralOf cX2_neutralOf 5 (some .int) ∈ WG := wg_mem 396 (rfl) rfl
theorem wM_X2_90 : Cond.methodLink RX2 90 yX2_loadOf ∈ WG := wg_mem 397 (by decide +kernel) rfl
theorem wM_L_65 : Cond.methodLink RL 65 yX4_grief ∈ WG := wg_mem 398 (by decide +kernel) rfl
theorem wI_yX4_grief : Cond.instanceMethod yX4_grief ∈ WG := wg_mem 399 (by decide +kernel) rfl
theorem wS_yX4_grief : Cond.selects RX4 yX4_grief yX4_grief ∈ WG := wg_mem 400 (by decide +kernel) rfl
set_option maxRecDepth 100000 in
theorem wC_yX4_grief : Cond.code yX4_grief cX4_grief 1 (some .int) ∈ WG := wg_mem 401 (rfl) rfl
theorem wM_X4_151 : Cond.methodLink RX4 151 yX2_griefNow ∈ WG := wg_mem 402 (by decide +kernel) rfl
theorem wI_yX2_griefNow : Cond.instanceMethod yX2_griefNow ∈ WG := wg_mem 403 (by decide +kernel) rfl
theorem wS_yX2_griefNow : Cond.selects RX2 yX2_griefNow yX2_griefNow ∈ WG := wg_mem 404 (by decide +kernel) rfl
set_option maxRecDepth 100000 in
theorem wC_yX2_griefNow : Cond.code yX2_griefNow cX2_griefNow 3 (some .int) ∈ WG := wg_mem 405 (rfl) rfl
theorem wM_X2_93 : Cond.methodLink RX2 93 yX2_neutralOf ∈ WG := wg_mem 406 (by decide +kernel) rfl
theorem wM_L_69 : Cond.methodLink RL 69 yX4_good ∈ WG := wg_mem 407 (by decide +kernel) rfl
theorem wI_yX4_good : Cond.instanceMethod yX4_good ∈ WG := wg_mem 408 (by decide +kernel) rfl
theorem wS_yX4_good : Cond.selects RX4 yX4_good yX4_good ∈ WG := wg_mem 409 (by decide +kernel) rfl
set_option maxRecDepth 100000 in
theorem wC_yX4_good : Cond.code yX4_good cX4_good 2 (some .int) ∈ WG := wg_mem 410 (rfl) rfl
theorem wM_X4_155 : Cond.methodLink RX4 155 yX2_isSafe ∈ WG := wg_mem 411 (by decide +kernel) rfl
theorem wI_yX2_isSafe : Cond.instanceMethod yX2_isSafe ∈ WG := wg_mem 412 (by decide +kernel) rfl
theorem wS_yX2_isSafe : Cond.selects RX2 yX2_isSafe yX2_isSafe ∈ WG := wg_mem 413 (by decide +kernel) rfl
set_option maxRecDepth 100000 in
theorem wC_yX2_isSafe : Cond.code yX2_isSafe cX2_isSafe 2 (some .boolean) ∈ WG := wg_mem 414 (rfl) rfl
theorem wM_X2_97 : Cond.methodLink RX2 97 yJ9_abs_0f7a4 ∈ WG := wg_mem 415 (by decide +kernel) rfl
theorem wT_yJ9_abs_0f7a4 : Cond.static yJ9_abs_0f7a4 ∈ WG := wg_mem 416 (by decide +kernel) rfl
set_option maxRecDepth 100000 in
theorem wC_yJ9_abs_0f7a4 : Cond.code yJ9_abs_0f7a4 cJ9_abs_0f7a4 1 (some .int) ∈ WG := wg_mem 417 (rfl) rfl
theorem wM_X4_159 : Cond.methodLink RX4 159 yX2_keepsTies ∈ WG := wg_mem 418 (by decide +kernel) rfl
theorem wI_yX2_keepsTies : Cond.instanceMethod yX2_keepsTies ∈ WG := wg_mem 419 (by decide +kernel) rfl
theorem wS_yX2_keepsTies : Cond.selects RX2 yX2_keepsTies yX2_keepsTies ∈ WG := wg_mem 420 (by decide +kernel) rfl
set_option maxRecDepth 100000 in
theorem wC_yX2_keepsTies : Cond.code yX2_keepsTies cX2_keepsTies 2 (some .boolean) ∈ WG := wg_mem 421 (rfl) rfl
theorem wM_L_73 : Cond.methodLink RL 73 yX4_worst ∈ WG := wg_mem 422 (by decide +kernel) rfl
theorem wI_yX4_worst : Cond.instanceMethod yX4_worst ∈ WG := wg_mem 423 (by decide +kernel) rfl
theorem wS_yX4_worst : Cond.selects RX4 yX4_worst yX4_worst ∈ WG := wg_mem 424 (by decide +kernel) rfl
set_option maxRecDepth 100000 in
theorem wC_yX4_worst : Cond.code yX4_worst cX4_worst 2 (some .int) ∈ WG := wg_mem 425 (rfl) rfl
theorem wM_X4_162 : Cond.methodLink RX4 162 yX2_hourOfGreatestNeutral ∈ WG := wg_mem 426 (by decide +kernel) rfl
theorem wI_yX2_hourOfGreatestNeutral : Cond.instanceMethod yX2_hourOfGreatestNeutral ∈ WG := wg_mem 427 (by decide +kernel) rfl
theorem wS_yX2_hourOfGreatestNeutral : Cond.selects RX2 yX2_hourOfGreatestNeutral yX2_hourOfGreatestNeutral ∈ WG := wg_mem 428 (by decide +kernel) rfl
set_option maxRecDepth 100000 in
theorem wC_yX2_hourOfGreatestNeutral : Cond.code yX2_hourOfGreatestNeutral cX2_hourOfGreatestNeutral 3 (some .int) ∈ WG := wg_mem 429 (rfl) rfl
theorem wM_X4_165 : Cond.methodLink RX4 165 yX2_greatestLoad ∈ WG := wg_mem 430 (by decide +kernel) rfl
theorem wI_yX2_greatestLoad : Cond.instanceMethod yX2_greatestLoad ∈ WG := wg_mem 431 (by decide +kernel) rfl
theorem wS_yX2_greatestLoad : Cond.selects RX2 yX2_greatestLoad yX2_greatestLoad ∈ WG := wg_mem 432 (by decide +kernel) rfl
set_option maxRecDepth 100000 in
theorem wC_yX2_greatestLoad : Cond.code yX2_greatestLoad cX2_greatestLoad 4 (some .int) ∈ WG := wg_mem 433 (rfl) rfl
theorem wM_L_77 : Cond.methodLink RL 77 yX4_change ∈ WG := wg_mem 434 (by decide +kernel) rfl
theorem wI_yX4_change : Cond.instanceMethod yX4_change ∈ WG := wg_mem 435 (by decide +kernel) rfl
theorem wS_yX4_change : Cond.selects RX4 yX4_change yX4_change ∈ WG := wg_mem 436 (by decide +kernel) rfl
set_option maxRecDepth 100000 in
theorem wC_yX4_change : Cond.code yX4_change cX4_change 4 (some .int) ∈ WG := wg_mem 437 (rfl) rfl
theorem wM_X4_168 : Cond.methodLink RX4 168 yX4_phasesChange ∈ WG := wg_mem 438 (by decide +kernel) rfl
theorem wI_yX4_phasesChange : Cond.instanceMethod yX4_phasesChange ∈ WG := wg_mem 440 (by decide +kernel) rfl
set_option maxRecDepth 100000 in
theorem wC_yX4_phasesChange : Cond.code yX4_phasesChange cX4_phasesChange 1 none ∈ WG := wg_mem 441 (rfl) rfl
theorem wM_X4_261 : Cond.methodLink RX4 261 yX2_packedPhases ∈ WG := wg_mem 442 (by decide +kernel) rfl
theorem wI_yX2_packedPhases : Cond.instanceMethod yX2_packedPhases ∈ WG := wg_mem 443 (by decide +kernel) rfl
theorem wS_yX2_packedPhases : Cond.selects RX2 yX2_packedPhases yX2_packedPhases ∈ WG := wg_mem 444 (by decide +kernel) rfl
set_option maxRecDepth 100000 in
theorem wC_yX2_packedPhases : Cond.code yX2_packedPhases cX2_packedPhases 1 (some .int) ∈ WG := wg_mem 445 (rfl) rfl
theorem wT_yX4_pack : Cond.static yX4_pack ∈ WG := wg_mem 447 (by decide +kernel) rfl
set_option maxRecDepth 100000 in
theorem wC_yX4_pack : Cond.code yX4_pack cX4_pack 4 (some .int) ∈ WG := wg_mem 448 (rfl) rfl
theorem wM_X4_264 : Cond.methodLink RX4 264 yX3_keep ∈ WG := wg_mem 449 (by decide +kernel) rfl
theorem wI_yX3_keep : Cond.instanceMethod yX3_keep ∈ WG := wg_mem 450 (by decide +kernel) rfl
theorem wS_yX3_keep : Cond.selects RX3 yX3_keep yX3_keep ∈ WG := wg_mem 451 (by decide +kernel) rfl
set_option maxRecDepth 100000 in
theorem wC_yX3_keep : Cond.code yX3_keep cX3_keep 2 none ∈ WG := wg_mem 452 (rfl) rfl
theorem wM_X3_19 : Cond.methodLink RX3 19 arraycopyName ∈ WG := wg_mem 453 (by decide +kernel) rfl
theorem wT_arraycopyName : Cond.static arraycopyName ∈ WG := wg_mem 454 (by decide +kernel) rfl
theorem wV_arraycopyName : Cond.native arraycopyName ∈ WG := wg_mem 455 (by decide +kernel) rfl
theorem wM_X4_171 : Cond.methodLink RX4 171 yX2_setPhase ∈ WG := wg_mem 456 (by decide +kernel) rfl
theorem wI_yX2_setPhase : Cond.instanceMethod yX2_setPhase ∈ WG := wg_mem 457 (by decide +kernel) rfl
theorem wS_yX2_setPhase : Cond.selects RX2 yX2_setPhase yX2_setPhase ∈ WG := wg_mem 458 (by decide +kernel) rfl
set_option maxRecDepth 100000 in
theorem wC_yX2_setPhase : Cond.code yX2_setPhase cX2_setPhase 3 none ∈ WG := wg_mem 459 (rfl) rfl
theorem wM_L_81 : Cond.methodLink RL 81 yX4_swap ∈ WG := wg_mem 460 (by decide +kernel) rfl
theorem wI_yX4_swap : Cond.instanceMethod yX4_swap ∈ WG := wg_mem 461 (by decide +kernel) rfl
theorem wS_yX4_swap : Cond.selects RX4 yX4_swap yX4_swap ∈ WG := wg_mem 462 (by decide +kernel) rfl
set_option maxRecDepth 100000 in
theorem wC_yX4_swap : Cond.code yX4_swap cX4_swap 3 (some .int) ∈ WG := wg_mem 463 (rfl) rfl
theorem wM_X4_174 : Cond.methodLink RX4 174 yX2_swapPhases ∈ WG := wg_mem 464 (by decide +kernel) rfl
theorem wI_yX2_swapPhases : Cond.instanceMethod yX2_swapPhases ∈ WG := wg_mem 465 (by decide +kernel) rfl
theorem wS_yX2_swapPhases : Cond.selects RX2 yX2_swapPhases yX2_swapPhases ∈ WG := wg_mem 466 (by decide +kernel) rfl
set_option maxRecDepth 100000 in
theorem wC_yX2_swapPhases : Cond.code yX2_swapPhases cX2_swapPhases 4 none ∈ WG := wg_mem 467 (rfl) rfl
theorem wM_X2_62 : Cond.methodLink RX2 62 yX2_setPhase ∈ WG := wg_mem 468 (by decide +kernel) rfl
theorem wM_L_85 : Cond.methodLink RL 85 yX4_step ∈ WG := wg_mem 469 (by decide +kernel) rfl
theorem wI_yX4_step : Cond.instanceMethod yX4_step ∈ WG := wg_mem 470 (by decide +kernel) rfl
theorem wS_yX4_step : Cond.selects RX4 yX4_step yX4_step ∈ WG := wg_mem 471 (by decide +kernel) rfl
set_option maxRecDepth 100000 in
theorem wC_yX4_step : Cond.code yX4_step cX4_step 1 (some .int) ∈ WG := wg_mem 472 (rfl) rfl
theorem wM_X4_177 : Cond.methodLink RX4 177 yX1_find ∈ WG := wg_mem 473 (by decide +kernel) rfl
theorem wI_yX1_find : Cond.instanceMethod yX1_find ∈ WG := wg_mem 474 (by decide +kernel) rfl
theorem wS_yX1_find : Cond.selects RX1 yX1_find yX1_find ∈ WG := wg_mem 475 (by decide +kernel) rfl
set_option maxRecDepth 100000 in
theorem wC_yX1_find : Cond.code yX1_find cX1_find 2 none ∈ WG := wg_mem 476 (rfl) rfl
theorem wM_X1_25 : Cond.methodLink RX1 25 yX1_isFree ∈ WG := wg_mem 477 (by decide +kernel) rfl
theorem wI_yX1_isFree : Cond.instanceMethod yX1_isFree ∈ WG := wg_mem 479 (by decide +kernel) rfl
set_option maxRecDepth 100000 in
theorem wC_yX1_isFree : Cond.code yX1_isFree cX1_isFree 2 (some .boolean) ∈ WG := wg_mem 480 (rfl) rfl
theorem wM_X1_63 : Cond.methodLink RX1 63 yX2_isTied ∈ WG := wg_mem 481 (by decide +kernel) rfl
theorem wI_yX2_isTied : Cond.instanceMethod yX2_isTied ∈ WG := wg_mem 482 (by decide +kernel) rfl
theorem wS_yX2_isTied : Cond.selects RX2 yX2_isTied yX2_isTied ∈ WG := wg_mem 483 (by decide +kernel) rfl
set_option maxRecDepth 100000 in
theorem wC_yX2_isTied : Cond.code yX2_isTied cX2_isTied 3 (some .boolean) ∈ WG := wg_mem 484 (rfl) rfl
theorem wM_X1_29 : Cond.methodLink RX1 29 yX1_tryChanges ∈ WG := wg_mem 485 (by decide +kernel) rfl
theorem wI_yX1_tryChanges : Cond.instanceMethod yX1_tryChanges ∈ WG := wg_mem 487 (by decide +kernel) rfl
set_option maxRecDepth 100000 in
theorem wC_yX1_tryChanges : Cond.code yX1_tryChanges cX1_tryChanges 4 none ∈ WG := wg_mem 488 (rfl) rfl
theorem wM_X1_52 : Cond.methodLink RX1 52 yX2_setPhase ∈ WG := wg_mem 489 (by decide +kernel) rfl
theorem wM_X1_69 : Cond.methodLink RX1 69 yX1_compare ∈ WG := wg_mem 490 (by decide +kernel) rfl
theorem wI_yX1_compare : Cond.instanceMethod yX1_compare ∈ WG := wg_mem 492 (by decide +kernel) rfl
set_option maxRecDepth 100000 in
theorem wC_yX1_compare : Cond.code yX1_compare cX1_compare 5 none ∈ WG := wg_mem 493 (rfl) rfl
theorem wM_X1_73 : Cond.methodLink RX1 73 yX2_isSafe ∈ WG := wg_mem 494 (by decide +kernel) rfl
theorem wM_X1_39 : Cond.methodLink RX1 39 yX2_griefNow ∈ WG := wg_mem 495 (by decide +kernel) rfl
theorem wM_X1_33 : Cond.methodLink RX1 33 yX1_trySwaps ∈ WG := wg_mem 496 (by decide +kernel) rfl
theorem wI_yX1_trySwaps : Cond.instanceMethod yX1_trySwaps ∈ WG := wg_mem 498 (by decide +kernel) rfl
set_option maxRecDepth 100000 in
theorem wC_yX1_trySwaps : Cond.code yX1_trySwaps cX1_trySwaps 3 none ∈ WG := wg_mem 499 (rfl) rfl
theorem wM_X1_56 : Cond.methodLink RX1 56 yX2_swapPhases ∈ WG := wg_mem 500 (by decide +kernel) rfl
theorem wM_X4_180 : Cond.methodLink RX4 180 yX1_lessens ∈ WG := wg_mem 501 (by decide +kernel) rfl
theorem wI_yX1_lessens : Cond.instanceMethod yX1_lessens ∈ WG := wg_mem 502 (by decide +kernel) rfl
theorem wS_yX1_lessens : Cond.selects RX1 yX1_lessens yX1_lessens ∈ WG := wg_mem 503 (by decide +kernel) rfl
set_option maxRecDepth 100000 in
theorem wC_yX1_lessens : Cond.code yX1_lessens cX1_lessens 1 (some .boolean) ∈ WG := wg_mem 504 (rfl) rfl
theorem wM_X4_183 : Cond.methodLink RX4 183 yX1_take ∈ WG := wg_mem 505 (by decide +kernel) rfl
theorem wI_yX1_take : Cond.instanceMethod yX1_take ∈ WG := wg_mem 506 (by decide +kernel) rfl
theorem wS_yX1_take : Cond.selects RX1 yX1_take yX1_take ∈ WG := wg_mem 507 (by decide +kernel) rfl
set_option maxRecDepth 100000 in
theorem wC_yX1_take : Cond.code yX1_take cX1_take 1 none ∈ WG := wg_mem 508 (rfl) rfl
theorem wM_L_89 : Cond.methodLink RL 89 yX4_down ∈ WG := wg_mem 509 (by decide +kernel) rfl
theorem wI_yX4_down : Cond.instanceMethod yX4_down ∈ WG := wg_mem 510 (by decide +kernel) rfl
theorem wS_yX4_down : Cond.selects RX4 yX4_down yX4_down ∈ WG := wg_mem 511 (by decide +kernel) rfl
set_option maxRecDepth 100000 in
theorem wC_yX4_down : Cond.code yX4_down cX4_down 2 (some .int) ∈ WG := wg_mem 512 (rfl) rfl
theorem wM_L_93 : Cond.methodLink RL 93 yX4_lay ∈ WG := wg_mem 513 (by decide +kernel) rfl
theorem wI_yX4_lay : Cond.instanceMethod yX4_lay ∈ WG := wg_mem 514 (by decide +kernel) rfl
theorem wS_yX4_lay : Cond.selects RX4 yX4_lay yX4_lay ∈ WG := wg_mem 515 (by decide +kernel) rfl
set_option maxRecDepth 100000 in
theorem wC_yX4_lay : Cond.code yX4_lay cX4_lay 3 (some .int) ∈ WG := wg_mem 516 (rfl) rfl
theorem wM_X4_186 : Cond.methodLink RX4 186 yX0_changesOfBest ∈ WG := wg_mem 517 (by decide +kernel) rfl
theorem wI_yX0_changesOfBest : Cond.instanceMethod yX0_changesOfBest ∈ WG := wg_mem 518 (by decide +kernel) rfl
theorem wS_yX0_changesOfBest : Cond.selects RX0 yX0_changesOfBest yX0_changesOfBest ∈ WG := wg_mem 519 (by decide +kernel) rfl
set_option maxRecDepth 100000 in
theorem wC_yX0_changesOfBest : Cond.code yX0_changesOfBest cX0_changesOfBest 4 (some .int) ∈ WG := wg_mem 520 (rfl) rfl
theorem wM_X0_44 : Cond.methodLink RX0 44 yX0_findAll ∈ WG := wg_mem 521 (by decide +kernel) rfl
theorem wI_yX0_findAll : Cond.instanceMethod yX0_findAll ∈ WG := wg_mem 523 (by decide +kernel) rfl
set_option maxRecDepth 100000 in
theorem wC_yX0_findAll : Cond.code yX0_findAll cX0_findAll 1 none ∈ WG := wg_mem 524 (rfl) rfl
theorem wM_X0_51 : Cond.methodLink RX0 51 yJ7_fill_53178 ∈ WG := wg_mem 525 (by decide +kernel) rfl
theorem wM_X0_63 : Cond.methodLink RX0 63 yX0_readTakings ∈ WG := wg_mem 526 (by decide +kernel) rfl
theorem wI_yX0_readTakings : Cond.instanceMethod yX0_readTakings ∈ WG := wg_mem 528 (by decide +kernel) rfl
set_option maxRecDepth 100000 in
theorem wC_yX0_readTakings : Cond.code yX0_readTakings cX0_readTakings 3 none ∈ WG := wg_mem 529 (rfl) rfl
theorem wM_X0_85 : Cond.methodLink RX0 85 yX2_takenBy ∈ WG := wg_mem 530 (by decide +kernel) rfl
theorem wM_X0_66 : Cond.methodLink RX0 66 yX0_findTightHours ∈ WG := wg_mem 531 (by decide +kernel) rfl
theorem wI_yX0_findTightHours : Cond.instanceMethod yX0_findTightHours ∈ WG := wg_mem 533 (by decide +kernel) rfl
set_option maxRecDepth 100000 in
theorem wC_yX0_findTightHours : Cond.code yX0_findTightHours cX0_findTightHours 5 none ∈ WG := wg_mem 534 (rfl) rfl
theorem wM_X0_92 : Cond.methodLink RX0 92 yJ9_max_7cf53 ∈ WG := wg_mem 535 (by decide +kernel) rfl
theorem wM_X0_69 : Cond.methodLink RX0 69 yX0_multiplyTakings ∈ WG := wg_mem 536 (by decide +kernel) rfl
theorem wI_yX0_multiplyTakings : Cond.instanceMethod yX0_multiplyTakings ∈ WG := wg_mem 538 (by decide +kernel) rfl
set_option maxRecDepth 100000 in
theorem wC_yX0_multiplyTakings : Cond.code yX0_multiplyTakings cX0_multiplyTakings 3 none ∈ WG := wg_mem 539 (rfl) rfl
theorem wM_X0_100 : Cond.methodLink RX0 100 yX0_product ∈ WG := wg_mem 540 (by decide +kernel) rfl
theorem wI_yX0_product : Cond.instanceMethod yX0_product ∈ WG := wg_mem 542 (by decide +kernel) rfl
set_option maxRecDepth 100000 in
theorem wC_yX0_product : Cond.code yX0_product cX0_product 5 (some .int) ∈ WG := wg_mem 543 (rfl) rfl
theorem wM_X0_72 : Cond.methodLink RX0 72 yX0_griefApart ∈ WG := wg_mem 544 (by decide +kernel) rfl
theorem wI_yX0_griefApart : Cond.instanceMethod yX0_griefApart ∈ WG := wg_mem 546 (by decide +kernel) rfl
set_option maxRecDepth 100000 in
theorem wC_yX0_griefApart : Cond.code yX0_griefApart cX0_griefApart 4 (some .int) ∈ WG := wg_mem 547 (rfl) rfl
theorem wM_X0_76 : Cond.methodLink RX0 76 yX0_place ∈ WG := wg_mem 548 (by decide +kernel) rfl
theorem wI_yX0_place : Cond.instanceMethod yX0_place ∈ WG := wg_mem 550 (by decide +kernel) rfl
set_option maxRecDepth 100000 in
theorem wC_yX0_place : Cond.code yX0_place cX0_place 5 none ∈ WG := wg_mem 551 (rfl) rfl
theorem wM_X0_106 : Cond.methodLink RX0 106 yX0_count ∈ WG := wg_mem 552 (by decide +kernel) rfl
theorem wI_yX0_count : Cond.instanceMethod yX0_count ∈ WG := wg_mem 554 (by decide +kernel) rfl
set_option maxRecDepth 100000 in
theorem wC_yX0_count : Cond.code yX0_count cX0_count 3 none ∈ WG := wg_mem 555 (rfl) rfl
theorem wM_X0_134 : Cond.methodLink RX0 134 yX0_isLaidSafe ∈ WG := wg_mem 556 (by decide +kernel) rfl
theorem wI_yX0_isLaidSafe : Cond.instanceMethod yX0_isLaidSafe ∈ WG := wg_mem 558 (by decide +kernel) rfl
set_option maxRecDepth 100000 in
theorem wC_yX0_isLaidSafe : Cond.code yX0_isLaidSafe cX0_isLaidSafe 3 (some .boolean) ∈ WG := wg_mem 559 (rfl) rfl
theorem wM_X0_130 : Cond.methodLink RX0 130 yJ9_abs_0f7a4 ∈ WG := wg_mem 560 (by decide +kernel) rfl
theorem wM_X0_110 : Cond.methodLink RX0 110 yX0_meetEarlier ∈ WG := wg_mem 562 (by decide +kernel) rfl
theorem wI_yX0_meetEarlier : Cond.instanceMethod yX0_meetEarlier ∈ WG := wg_mem 564 (by decide +kernel) rfl
set_option maxRecDepth 100000 in
theorem wC_yX0_meetEarlier : Cond.code yX0_meetEarlier cX0_meetEarlier 4 none ∈ WG := wg_mem 565 (rfl) rfl
theorem wM_X0_114 : Cond.methodLink RX0 114 yX0_mayLie ∈ WG := wg_mem 566 (by decide +kernel) rfl
theorem wI_yX0_mayLie : Cond.instanceMethod yX0_mayLie ∈ WG := wg_mem 568 (by decide +kernel) rfl
set_option maxRecDepth 100000 in
theorem wC_yX0_mayLie : Cond.code yX0_mayLie cX0_mayLie 4 (some .boolean) ∈ WG := wg_mem 569 (rfl) rfl
theorem wM_X0_118 : Cond.methodLink RX0 118 yX0_addLoads ∈ WG := wg_mem 570 (by decide +kernel) rfl
theorem wI_yX0_addLoads : Cond.instanceMethod yX0_addLoads ∈ WG := wg_mem 572 (by decide +kernel) rfl
set_option maxRecDepth 100000 in
theorem wC_yX0_addLoads : Cond.code yX0_addLoads cX0_addLoads 6 none ∈ WG := wg_mem 573 (rfl) rfl
theorem wM_X4_192 : Cond.methodLink RX4 192 yX2_layPacked ∈ WG := wg_mem 574 (by decide +kernel) rfl
theorem wI_yX2_layPacked : Cond.instanceMethod yX2_layPacked ∈ WG := wg_mem 575 (by decide +kernel) rfl
theorem wS_yX2_layPacked : Cond.selects RX2 yX2_layPacked yX2_layPacked ∈ WG := wg_mem 576 (by decide +kernel) rfl
set_option maxRecDepth 100000 in
theorem wC_yX2_layPacked : Cond.code yX2_layPacked cX2_layPacked 3 none ∈ WG := wg_mem 577 (rfl) rfl
theorem wT_yX4_phaseIn : Cond.static yX4_phaseIn ∈ WG := wg_mem 579 (by decide +kernel) rfl
set_option maxRecDepth 100000 in
theorem wC_yX4_phaseIn : Cond.code yX4_phaseIn cX4_phaseIn 2 (some .int) ∈ WG := wg_mem 580 (rfl) rfl
theorem wM_L_97 : Cond.methodLink RL 97 yX4_undo ∈ WG := wg_mem 581 (by decide +kernel) rfl
theorem wI_yX4_undo : Cond.instanceMethod yX4_undo ∈ WG := wg_mem 582 (by decide +kernel) rfl
theorem wS_yX4_undo : Cond.selects RX4 yX4_undo yX4_undo ∈ WG := wg_mem 583 (by decide +kernel) rfl
set_option maxRecDepth 100000 in
theorem wC_yX4_undo : Cond.code yX4_undo cX4_undo 1 (some .int) ∈ WG := wg_mem 584 (rfl) rfl
theorem wM_X4_199 : Cond.methodLink RX4 199 yX3_takeLast ∈ WG := wg_mem 585 (by decide +kernel) rfl
theorem wI_yX3_takeLast : Cond.instanceMethod yX3_takeLast ∈ WG := wg_mem 586 (by decide +kernel) rfl
theorem wS_yX3_takeLast : Cond.selects RX3 yX3_takeLast yX3_takeLast ∈ WG := wg_mem 587 (by decide +kernel) rfl
set_option maxRecDepth 100000 in
theorem wC_yX3_takeLast : Cond.code yX3_takeLast cX3_takeLast 1 (some .int) ∈ WG := wg_mem 588 (rfl) rfl
theorem wM_L_101 : Cond.methodLink RL 101 yX4_best ∈ WG := wg_mem 589 (by decide +kernel) rfl
theorem wI_yX4_best : Cond.instanceMethod yX4_best ∈ WG := wg_mem 590 (by decide +kernel) rfl
theorem wS_yX4_best : Cond.selects RX4 yX4_best yX4_best ∈ WG := wg_mem 591 (by decide +kernel) rfl
set_option maxRecDepth 100000 in
theorem wC_yX4_best : Cond.code yX4_best cX4_best 3 (some .int) ∈ WG := wg_mem 592 (rfl) rfl
theorem wM_L_105 : Cond.methodLink RL 105 yX4_phase ∈ WG := wg_mem 593 (by decide +kernel) rfl
theorem wI_yX4_phase : Cond.instanceMethod yX4_phase ∈ WG := wg_mem 594 (by decide +kernel) rfl
theorem wS_yX4_phase : Cond.selects RX4 yX4_phase yX4_phase ∈ WG := wg_mem 595 (by decide +kernel) rfl
set_option maxRecDepth 100000 in
theorem wC_yX4_phase : Cond.code yX4_phase cX4_phase 3 (some .int) ∈ WG := wg_mem 596 (rfl) rfl
theorem wM_X4_211 : Cond.methodLink RX4 211 yX4_phaseIn ∈ WG := wg_mem 597 (by decide +kernel) rfl
theorem wM_L_109 : Cond.methodLink RL 109 yX4_by ∈ WG := wg_mem 598 (by decide +kernel) rfl
theorem wI_yX4_by : Cond.instanceMethod yX4_by ∈ WG := wg_mem 599 (by decide +kernel) rfl
theorem wS_yX4_by : Cond.selects RX4 yX4_by yX4_by ∈ WG := wg_mem 600 (by decide +kernel) rfl
set_option maxRecDepth 100000 in
theorem wC_yX4_by : Cond.code yX4_by cX4_by 3 (some .int) ∈ WG := wg_mem 601 (rfl) rfl
theorem wM_L_113 : Cond.methodLink RL 113 yX4_fewest ∈ WG := wg_mem 602 (by decide +kernel) rfl
theorem wI_yX4_fewest : Cond.instanceMethod yX4_fewest ∈ WG := wg_mem 603 (by decide +kernel) rfl
theorem wS_yX4_fewest : Cond.selects RX4 yX4_fewest yX4_fewest ∈ WG := wg_mem 604 (by decide +kernel) rfl
set_option maxRecDepth 100000 in
theorem wC_yX4_fewest : Cond.code yX4_fewest cX4_fewest 2 (some .int) ∈ WG := wg_mem 605 (rfl) rfl
theorem wM_X4_214 : Cond.methodLink RX4 214 yX0_fewestChangesFor ∈ WG := wg_mem 606 (by decide +kernel) rfl
theorem wI_yX0_fewestChangesFor : Cond.instanceMethod yX0_fewestChangesFor ∈ WG := wg_mem 607 (by decide +kernel) rfl
theorem wS_yX0_fewestChangesFor : Cond.selects RX0 yX0_fewestChangesFor yX0_fewestChangesFor ∈ WG := wg_mem 608 (by decide +kernel) rfl
set_option maxRecDepth 100000 in
theorem wC_yX0_fewestChangesFor : Cond.code yX0_fewestChangesFor cX0_fewestChangesFor 3 (some .int) ∈ WG := wg_mem 609 (rfl) rfl
theorem wM_L_117 : Cond.methodLink RL 117 yX4_many ∈ WG := wg_mem 610 (by decide +kernel) rfl
theorem wI_yX4_many : Cond.instanceMethod yX4_many ∈ WG := wg_mem 611 (by decide +kernel) rfl
theorem wS_yX4_many : Cond.selects RX4 yX4_many yX4_many ∈ WG := wg_mem 612 (by decide +kernel) rfl
set_option maxRecDepth 100000 in
theorem wC_yX4_many : Cond.code yX4_many cX4_many 1 (some .int) ∈ WG := wg_mem 613 (rfl) rfl
theorem wM_X4_217 : Cond.methodLink RX4 217 yX0_countAll ∈ WG := wg_mem 614 (by decide +kernel) rfl
theorem wI_yX0_countAll : Cond.instanceMethod yX0_countAll ∈ WG := wg_mem 615 (by decide +kernel) rfl
theorem wS_yX0_countAll : Cond.selects RX0 yX0_countAll yX0_countAll ∈ WG := wg_mem 616 (by decide +kernel) rfl
set_option maxRecDepth 100000 in
theorem wC_yX0_countAll : Cond.code yX0_countAll cX0_countAll 1 (some .int) ∈ WG := wg_mem 617 (rfl) rfl
theorem wM_L_121 : Cond.methodLink RL 121 yX4_next ∈ WG := wg_mem 618 (by decide +kernel) rfl
theorem wI_yX4_next : Cond.instanceMethod yX4_next ∈ WG := wg_mem 619 (by decide +kernel) rfl
theorem wS_yX4_next : Cond.selects RX4 yX4_next yX4_next ∈ WG := wg_mem 620 (by decide +kernel) rfl
set_option maxRecDepth 100000 in
theorem wC_yX4_next : Cond.code yX4_next cX4_next 2 (some .int) ∈ WG := wg_mem 621 (rfl) rfl
theorem wM_L_125 : Cond.methodLink RL 125 yX4_told ∈ WG := wg_mem 622 (by decide +kernel) rfl
theorem wI_yX4_told : Cond.instanceMethod yX4_told ∈ WG := wg_mem 623 (by decide +kernel) rfl
theorem wS_yX4_told : Cond.selects RX4 yX4_told yX4_told ∈ WG := wg_mem 624 (by decide +kernel) rfl
set_option maxRecDepth 100000 in
theorem wC_yX4_told : Cond.code yX4_told cX4_told 2 (some .int) ∈ WG := wg_mem 625 (rfl) rfl
theorem wM_X4_236 : Cond.methodLink RX4 236 yX4_toldOf ∈ WG := wg_mem 626 (by decide +kernel) rfl
theorem wI_yX4_toldOf : Cond.instanceMethod yX4_toldOf ∈ WG := wg_mem 628 (by decide +kernel) rfl
set_option maxRecDepth 100000 in
theorem wC_yX4_toldOf : Cond.code yX4_toldOf cX4_toldOf 2 (some .int) ∈ WG := wg_mem 629 (rfl) rfl
theorem wM_X4_258 : Cond.methodLink RX4 258 yX2_fixedBits ∈ WG := wg_mem 630 (by decide +kernel) rfl
theorem wI_yX2_fixedBits : Cond.instanceMethod yX2_fixedBits ∈ WG := wg_mem 631 (by decide +kernel) rfl
theorem wS_yX2_fixedBits : Cond.selects RX2 yX2_fixedBits yX2_fixedBits ∈ WG := wg_mem 632 (by decide +kernel) rfl
set_option maxRecDepth 100000 in
theorem wC_yX2_fixedBits : Cond.code yX2_fixedBits cX2_fixedBits 3 (some .int) ∈ WG := wg_mem 633 (rfl) rfl
theorem wM_L_129 : Cond.methodLink RL 129 yX4_digest ∈ WG := wg_mem 634 (by decide +kernel) rfl
theorem wI_yX4_digest : Cond.instanceMethod yX4_digest ∈ WG := wg_mem 635 (by decide +kernel) rfl
theorem wS_yX4_digest : Cond.selects RX4 yX4_digest yX4_digest ∈ WG := wg_mem 636 (by decide +kernel) rfl
set_option maxRecDepth 100000 in
theorem wC_yX4_digest : Cond.code yX4_digest cX4_digest 4 (some .long) ∈ WG := wg_mem 637 (rfl) rfl
theorem wK_X4_239 : Cond.constantLong RX4 239 (2011) ∈ WG := wg_mem 638 (by decide +kernel) rfl
theorem wK_X4_241 : Cond.constantLong RX4 241 (31) ∈ WG := wg_mem 639 (by decide +kernel) rfl
theorem wL_L_10 : Cond.classLink RL 10 RX5 ∈ WG := wg_mem 640 (by decide +kernel) rfl
theorem wB_X5 : Cond.instantiable RX5 21 ∈ WG := wg_mem 641 (by decide +kernel) rfl
theorem wM_L_12 : Cond.methodLink RL 12 yX5_init ∈ WG := wg_mem 642 (by decide +kernel) rfl
theorem wI_yX5_init : Cond.instanceMethod yX5_init ∈ WG := wg_mem 643 (by decide +kernel) rfl
set_option maxRecDepth 100000 in
theorem wC_yX5_init : Cond.code yX5_init cX5_init 1 none ∈ WG := wg_mem 644 (rfl) rfl
theorem wM_X5_1 : Cond.methodLink RX5 1 objectInit ∈ WG := wg_mem 645 (by decide +kernel) rfl
theorem wF_X5_7 : Cond.fieldLink RX5 7 "PhaseLoadsModel" "sorts" "[I" ∈ WG := wg_mem 646 (by decide +kernel) rfl
theorem wF_X5_13 : Cond.fieldLink RX5 13 "PhaseLoadsModel" "sizes" "[I" ∈ WG := wg_mem 647 (by decide +kernel) rfl
theorem wF_X5_16 : Cond.fieldLink RX5 16 "PhaseLoadsModel" "phases" "[I" ∈ WG := wg_mem 648 (by decide +kernel) rfl
theorem wF_X5_19 : Cond.fieldLink RX5 19 "PhaseLoadsModel" "fixed" "[I" ∈ WG := wg_mem 649 (by decide +kernel) rfl
theorem wF_X5_56 : Cond.fieldLink RX5 56 "PhaseLoadsModel" "houses" "I" ∈ WG := wg_mem 650 (by decide +kernel) rfl
theorem wF_X5_22 : Cond.fieldLink RX5 22 "PhaseLoadsModel" "weights" "[I" ∈ WG := wg_mem 651 (by decide +kernel) rfl
theorem wF_X5_25 : Cond.fieldLink RX5 25 "PhaseLoadsModel" "fuse" "I" ∈ WG := wg_mem 652 (by decide +kernel) rfl
theorem wF_X5_29 : Cond.fieldLink RX5 29 "PhaseLoadsModel" "ties" "[I" ∈ WG := wg_mem 653 (by decide +kernel) rfl
theorem wF_X5_77 : Cond.fieldLink RX5 77 "PhaseLoadsModel" "pairs" "I" ∈ WG := wg_mem 654 (by decide +kernel) rfl
theorem wF_X5_32 : Cond.fieldLink RX5 32 "PhaseLoadsModel" "past" "[I" ∈ WG := wg_mem 655 (by decide +kernel) rfl
theorem wF_X5_67 : Cond.fieldLink RX5 67 "PhaseLoadsModel" "known" "I" ∈ WG := wg_mem 656 (by decide +kernel) rfl
theorem wF_X5_35 : Cond.fieldLink RX5 35 "PhaseLoadsModel" "refused" "[I" ∈ WG := wg_mem 657 (by decide +kernel) rfl
theorem wF_X5_38 : Cond.fieldLink RX5 38 "PhaseLoadsModel" "taken" "[I" ∈ WG := wg_mem 658 (by decide +kernel) rfl
theorem wF_X5_41 : Cond.fieldLink RX5 41 "PhaseLoadsModel" "loads" "[I" ∈ WG := wg_mem 659 (by decide +kernel) rfl
theorem wF_X5_44 : Cond.fieldLink RX5 44 "PhaseLoadsModel" "now" "[I" ∈ WG := wg_mem 660 (by decide +kernel) rfl
theorem wF_X5_47 : Cond.fieldLink RX5 47 "PhaseLoadsModel" "best" "[I" ∈ WG := wg_mem 661 (by decide +kernel) rfl
theorem wF_X5_50 : Cond.fieldLink RX5 50 "PhaseLoadsModel" "griefs" "[I" ∈ WG := wg_mem 662 (by decide +kernel) rfl
theorem wF_X5_161 : Cond.fieldLink RX5 161 "PhaseLoadsModel" "all" "I" ∈ WG := wg_mem 663 (by decide +kernel) rfl
theorem wF_X5_164 : Cond.fieldLink RX5 164 "PhaseLoadsModel" "least" "I" ∈ WG := wg_mem 664 (by decide +kernel) rfl
theorem wF_X5_167 : Cond.fieldLink RX5 167 "PhaseLoadsModel" "alike" "I" ∈ WG := wg_mem 665 (by decide +kernel) rfl
theorem wF_X5_53 : Cond.fieldLink RX5 53 "PhaseLoadsModel" "found" "[I" ∈ WG := wg_mem 666 (by decide +kernel) rfl
theorem wM_L_17 : Cond.methodLink RL 17 yX5_house ∈ WG := wg_mem 710 (by decide +kernel) rfl
theorem wI_yX5_house : Cond.instanceMethod yX5_house ∈ WG := wg_mem 711 (by decide +kernel) rfl
theorem wS_yX5_house : Cond.selects RX5 yX5_house yX5_house ∈ WG := wg_mem 712 (by decide +kernel) rfl
set_option maxRecDepth 100000 in
theorem wC_yX5_house : Cond.code yX5_house cX5_house 4 (some .int) ∈ WG := wg_mem 713 (rfl) rfl
theorem wM_X5_59 : Cond.methodLink RX5 59 yX5_in ∈ WG := wg_mem 714 (by decide +kernel) rfl
theorem wT_yX5_in : Cond.static yX5_in ∈ WG := wg_mem 715 (by decide +kernel) rfl
set_option maxRecDepth 100000 in
theorem wC_yX5_in : Cond.code yX5_in cX5_in 3 (some .boolean) ∈ WG := wg_mem 716 (rfl) rfl
theorem wM_X5_63 : Cond.methodLink RX5 63 yX5_refuses ∈ WG := wg_mem 717 (by decide +kernel) rfl
theorem wI_yX5_refuses : Cond.instanceMethod yX5_refuses ∈ WG := wg_mem 719 (by decide +kernel) rfl
set_option maxRecDepth 100000 in
theorem wC_yX5_refuses : Cond.code yX5_refuses cX5_refuses 2 (some .int) ∈ WG := wg_mem 720 (rfl) rfl
theorem wM_L_21 : Cond.methodLink RL 21 yX5_sets ∈ WG := wg_mem 721 (by decide +kernel) rfl
theorem wI_yX5_sets : Cond.instanceMethod yX5_sets ∈ WG := wg_mem 722 (by decide +kernel) rfl
theorem wS_yX5_sets : Cond.selects RX5 yX5_sets yX5_sets ∈ WG := wg_mem 723 (by decide +kernel) rfl
set_option maxRecDepth 100000 in
theorem wC_yX5_sets : Cond.code yX5_sets cX5_sets 5 (some .int) ∈ WG := wg_mem 724 (rfl) rfl
theorem wM_X5_70 : Cond.methodLink RX5 70 yX5_isHouse ∈ WG := wg_mem 725 (by decide +kernel) rfl
theorem wI_yX5_isHouse : Cond.instanceMethod yX5_isHouse ∈ WG := wg_mem 727 (by decide +kernel) rfl
set_option maxRecDepth 100000 in
theorem wC_yX5_isHouse : Cond.code yX5_isHouse cX5_isHouse 2 (some .boolean) ∈ WG := wg_mem 728 (rfl) rfl
theorem wM_L_26 : Cond.methodLink RL 26 yX5_weight ∈ WG := wg_mem 729 (by decide +kernel) rfl
theorem wI_yX5_weight : Cond.instanceMethod yX5_weight ∈ WG := wg_mem 730 (by decide +kernel) rfl
theorem wS_yX5_weight : Cond.selects RX5 yX5_weight yX5_weight ∈ WG := wg_mem 731 (by decide +kernel) rfl
set_option maxRecDepth 100000 in
theorem wC_yX5_weight : Cond.code yX5_weight cX5_weight 4 (some .int) ∈ WG := wg_mem 732 (rfl) rfl
theorem wM_X5_74 : Cond.methodLink RX5 74 yX5_isHour ∈ WG := wg_mem 733 (by decide +kernel) rfl
theorem wT_yX5_isHour : Cond.static yX5_isHour ∈ WG := wg_mem 734 (by decide +kernel) rfl
set_option maxRecDepth 100000 in
theorem wC_yX5_isHour : Cond.code yX5_isHour cX5_isHour 1 (some .boolean) ∈ WG := wg_mem 735 (rfl) rfl
theorem wM_L_31 : Cond.methodLink RL 31 yX5_fuse ∈ WG := wg_mem 736 (by decide +kernel) rfl
theorem wI_yX5_fuse : Cond.instanceMethod yX5_fuse ∈ WG := wg_mem 737 (by decide +kernel) rfl
theorem wS_yX5_fuse : Cond.selects RX5 yX5_fuse yX5_fuse ∈ WG := wg_mem 738 (by decide +kernel) rfl
set_option maxRecDepth 100000 in
theorem wC_yX5_fuse : Cond.code yX5_fuse cX5_fuse 3 (some .int) ∈ WG := wg_mem 739 (rfl) rfl
theorem wM_L_35 : Cond.methodLink RL 35 yX5_tie ∈ WG := wg_mem 740 (by decide +kernel) rfl
theorem wI_yX5_tie : Cond.instanceMethod yX5_tie ∈ WG := wg_mem 741 (by decide +kernel) rfl
theorem wS_yX5_tie : Cond.selects RX5 yX5_tie yX5_tie ∈ WG := wg_mem 742 (by decide +kernel) rfl
set_option maxRecDepth 100000 in
theorem wC_yX5_tie : Cond.code yX5_tie cX5_tie 3 (some .int) ∈ WG := wg_mem 743 (rfl) rfl
theorem wM_X5_80 : Cond.methodLink RX5 80 yX5_leastOf ∈ WG := wg_mem 744 (by decide +kernel) rfl
theorem wI_yX5_leastOf : Cond.instanceMethod yX5_leastOf ∈ WG := wg_mem 746 (by decide +kernel) rfl
set_option maxRecDepth 100000 in
theorem wC_yX5_leastOf : Cond.code yX5_leastOf cX5_leastOf 6 (some .int) ∈ WG := wg_mem 747 (rfl) rfl
theorem wM_L_40 : Cond.methodLink RL 40 yX5_loosens ∈ WG := wg_mem 748 (by decide +kernel) rfl
theorem wI_yX5_loosens : Cond.instanceMethod yX5_loosens ∈ WG := wg_mem 749 (by decide +kernel) rfl
theorem wS_yX5_loosens : Cond.selects RX5 yX5_loosens yX5_loosens ∈ WG := wg_mem 750 (by decide +kernel) rfl
set_option maxRecDepth 100000 in
theorem wC_yX5_loosens : Cond.code yX5_loosens cX5_loosens 2 (some .int) ∈ WG := wg_mem 751 (rfl) rfl
theorem wM_L_44 : Cond.methodLink RL 44 yX5_anew ∈ WG := wg_mem 752 (by decide +kernel) rfl
theorem wI_yX5_anew : Cond.instanceMethod yX5_anew ∈ WG := wg_mem 753 (by decide +kernel) rfl
theorem wS_yX5_anew : Cond.selects RX5 yX5_anew yX5_anew ∈ WG := wg_mem 754 (by decide +kernel) rfl
set_option maxRecDepth 100000 in
theorem wC_yX5_anew : Cond.code yX5_anew cX5_anew 3 (some .int) ∈ WG := wg_mem 755 (rfl) rfl
theorem wM_L_48 : Cond.methodLink RL 48 yX5_draw ∈ WG := wg_mem 756 (by decide +kernel) rfl
theorem wI_yX5_draw : Cond.instanceMethod yX5_draw ∈ WG := wg_mem 757 (by decide +kernel) rfl
theorem wS_yX5_draw : Cond.selects RX5 yX5_draw yX5_draw ∈ WG := wg_mem 758 (by decide +kernel) rfl
set_option maxRecDepth 100000 in
theorem wC_yX5_draw : Cond.code yX5_draw cX5_draw 6 (some .int) ∈ WG := wg_mem 759 (rfl) rfl
theorem wK_X5_83 : Cond.constant RX5 83 (999999) ∈ WG := wg_mem 760 (by decide +kernel) rfl
theorem wK_X5_84 : Cond.constantLong RX5 84 (1103515245) ∈ WG := wg_mem 761 (by decide +kernel) rfl
theorem wK_X5_86 : Cond.constantLong RX5 86 (12345) ∈ WG := wg_mem 762 (by decide +kernel) rfl
theorem wK_X5_88 : Cond.constantLong RX5 88 (2147483648) ∈ WG := wg_mem 763 (by decide +kernel) rfl
theorem wK_X5_90 : Cond.constantLong RX5 90 (65536) ∈ WG := wg_mem 764 (by decide +kernel) rfl
theorem wK_X5_92 : Cond.constantLong RX5 92 (6) ∈ WG := wg_mem 765 (by decide +kernel) rfl
theorem wK_X5_94 : Cond.constantLong RX5 94 (1024) ∈ WG := wg_mem 766 (by decide +kernel) rfl
theorem wK_X5_96 : Cond.constantLong RX5 96 (20) ∈ WG := wg_mem 767 (by decide +kernel) rfl
theorem wK_X5_98 : Cond.constantLong RX5 98 (32768) ∈ WG := wg_mem 768 (by decide +kernel) rfl
theorem wK_X5_100 : Cond.constantLong RX5 100 (3) ∈ WG := wg_mem 769 (by decide +kernel) rfl
theorem wM_L_52 : Cond.methodLink RL 52 yX5_of ∈ WG := wg_mem 770 (by decide +kernel) rfl
theorem wI_yX5_of : Cond.instanceMethod yX5_of ∈ WG := wg_mem 771 (by decide +kernel) rfl
theorem wS_yX5_of : Cond.selects RX5 yX5_of yX5_of ∈ WG := wg_mem 772 (by decide +kernel) rfl
set_option maxRecDepth 100000 in
theorem wC_yX5_of : Cond.code yX5_of cX5_of 3 (some .int) ∈ WG := wg_mem 773 (rfl) rfl
theorem wM_L_56 : Cond.methodLink RL 56 yX5_takes ∈ WG := wg_mem 774 (by decide +kernel) rfl
theorem wI_yX5_takes : Cond.instanceMethod yX5_takes ∈ WG := wg_mem 775 (by decide +kernel) rfl
theorem wS_yX5_takes : Cond.selects RX5 yX5_takes yX5_takes ∈ WG := wg_mem 776 (by decide +kernel) rfl
set_option maxRecDepth 100000 in
theorem wC_yX5_takes : Cond.code yX5_takes cX5_takes 3 (some .int) ∈ WG := wg_mem 777 (rfl) rfl
theorem wM_X5_102 : Cond.methodLink RX5 102 yX5_takesOf ∈ WG := wg_mem 778 (by decide +kernel) rfl
theorem wI_yX5_takesOf : Cond.instanceMethod yX5_takesOf ∈ WG := wg_mem 780 (by decide +kernel) rfl
set_option maxRecDepth 100000 in
theorem wC_yX5_takesOf : Cond.code yX5_takesOf cX5_takesOf 5 (some .int) ∈ WG := wg_mem 781 (rfl) rfl
theorem wM_L_60 : Cond.methodLink RL 60 yX5_load ∈ WG := wg_mem 782 (by decide +kernel) rfl
theorem wI_yX5_load : Cond.instanceMethod yX5_load ∈ WG := wg_mem 783 (by decide +kernel) rfl
theorem wS_yX5_load : Cond.selects RX5 yX5_load yX5_load ∈ WG := wg_mem 784 (by decide +kernel) rfl
set_option maxRecDepth 100000 in
theorem wC_yX5_load : Cond.code yX5_load cX5_load 3 (some .int) ∈ WG := wg_mem 785 (rfl) rfl
theorem wM_X5_115 : Cond.methodLink RX5 115 yX5_asIs ∈ WG := wg_mem 786 (by decide +kernel) rfl
theorem wI_yX5_asIs : Cond.instanceMethod yX5_asIs ∈ WG := wg_mem 788 (by decide +kernel) rfl
set_option maxRecDepth 100000 in
theorem wC_yX5_asIs : Cond.code yX5_asIs cX5_asIs 2 none ∈ WG := wg_mem 789 (rfl) rfl
theorem wM_X5_106 : Cond.methodLink RX5 106 yX5_table ∈ WG := wg_mem 790 (by decide +kernel) rfl
theorem wI_yX5_table : Cond.instanceMethod yX5_table ∈ WG := wg_mem 792 (by decide +kernel) rfl
set_option maxRecDepth 100000 in
theorem wC_yX5_table : Cond.code yX5_table cX5_table 3 none ∈ WG := wg_mem 793 (rfl) rfl
theorem wM_X5_109 : Cond.methodLink RX5 109 yX5_loadsNow ∈ WG := wg_mem 794 (by decide +kernel) rfl
theorem wI_yX5_loadsNow : Cond.instanceMethod yX5_loadsNow ∈ WG := wg_mem 796 (by decide +kernel) rfl
set_option maxRecDepth 100000 in
theorem wC_yX5_loadsNow : Cond.code yX5_loadsNow cX5_loadsNow 3 none ∈ WG := wg_mem 797 (rfl) rfl
theorem wM_L_64 : Cond.methodLink RL 64 yX5_neutral ∈ WG := wg_mem 798 (by decide +kernel) rfl
theorem wI_yX5_neutral : Cond.instanceMethod yX5_neutral ∈ WG := wg_mem 799 (by decide +kernel) rfl
theorem wS_yX5_neutral : Cond.selects RX5 yX5_neutral yX5_neutral ∈ WG := wg_mem 800 (by decide +kernel) rfl
set_option maxRecDepth 100000 in
theorem wC_yX5_neutral : Cond.code yX5_neutral cX5_neutral 2 (some .int) ∈ WG := wg_mem 801 (rfl) rfl
theorem wM_X5_112 : Cond.methodLink RX5 112 yX5_neutralNow ∈ WG := wg_mem 802 (by decide +kernel) rfl
theorem wI_yX5_neutralNow : Cond.instanceMethod yX5_neutralNow ∈ WG := wg_mem 804 (by decide +kernel) rfl
set_option maxRecDepth 100000 in
theorem wC_yX5_neutralNow : Cond.code yX5_neutralNow cX5_neutralNow 5 (some .int) ∈ WG := wg_mem 805 (rfl) rfl
theorem wM_L_68 : Cond.methodLink RL 68 yX5_grief ∈ WG := wg_mem 806 (by decide +kernel) rfl
theorem wI_yX5_grief : Cond.instanceMethod yX5_grief ∈ WG := wg_mem 807 (by decide +kernel) rfl
theorem wS_yX5_grief : Cond.selects RX5 yX5_grief yX5_grief ∈ WG := wg_mem 808 (by decide +kernel) rfl
set_option maxRecDepth 100000 in
theorem wC_yX5_grief : Cond.code yX5_grief cX5_grief 1 (some .int) ∈ WG := wg_mem 809 (rfl) rfl
theorem wM_X5_122 : Cond.methodLink RX5 122 yX5_griefOf ∈ WG := wg_mem 810 (by decide +kernel) rfl
theorem wI_yX5_griefOf : Cond.instanceMethod yX5_griefOf ∈ WG := wg_mem 812 (by decide +kernel) rfl
set_option maxRecDepth 100000 in
theorem wC_yX5_griefOf : Cond.code yX5_griefOf cX5_griefOf 1 (some .int) ∈ WG := wg_mem 813 (rfl) rfl
theorem wM_X5_118 : Cond.methodLink RX5 118 yX5_griefNow ∈ WG := wg_mem 814 (by decide +kernel) rfl
theorem wI_yX5_griefNow : Cond.instanceMethod yX5_griefNow ∈ WG := wg_mem 816 (by decide +kernel) rfl
set_option maxRecDepth 100000 in
theorem wC_yX5_griefNow : Cond.code yX5_griefNow cX5_griefNow 3 (some .int) ∈ WG := wg_mem 817 (rfl) rfl
theorem wM_L_72 : Cond.methodLink RL 72 yX5_good ∈ WG := wg_mem 818 (by decide +kernel) rfl
theorem wI_yX5_good : Cond.instanceMethod yX5_good ∈ WG := wg_mem 819 (by decide +kernel) rfl
theorem wS_yX5_good : Cond.selects RX5 yX5_good yX5_good ∈ WG := wg_mem 820 (by decide +kernel) rfl
set_option maxRecDepth 100000 in
theorem wC_yX5_good : Cond.code yX5_good cX5_good 2 (some .int) ∈ WG := wg_mem 821 (rfl) rfl
theorem wM_X5_125 : Cond.methodLink RX5 125 yX5_isSafe ∈ WG := wg_mem 822 (by decide +kernel) rfl
theorem wI_yX5_isSafe : Cond.instanceMethod yX5_isSafe ∈ WG := wg_mem 824 (by decide +kernel) rfl
set_option maxRecDepth 100000 in
theorem wC_yX5_isSafe : Cond.code yX5_isSafe cX5_isSafe 3 (some .boolean) ∈ WG := wg_mem 825 (rfl) rfl
theorem wM_X5_129 : Cond.methodLink RX5 129 yX5_isKept ∈ WG := wg_mem 826 (by decide +kernel) rfl
theorem wI_yX5_isKept : Cond.instanceMethod yX5_isKept ∈ WG := wg_mem 828 (by decide +kernel) rfl
set_option maxRecDepth 100000 in
theorem wC_yX5_isKept : Cond.code yX5_isKept cX5_isKept 3 (some .boolean) ∈ WG := wg_mem 829 (rfl) rfl
theorem wM_L_76 : Cond.methodLink RL 76 yX5_worst ∈ WG := wg_mem 830 (by decide +kernel) rfl
theorem wI_yX5_worst : Cond.instanceMethod yX5_worst ∈ WG := wg_mem 831 (by decide +kernel) rfl
theorem wS_yX5_worst : Cond.selects RX5 yX5_worst yX5_worst ∈ WG := wg_mem 832 (by decide +kernel) rfl
set_option maxRecDepth 100000 in
theorem wC_yX5_worst : Cond.code yX5_worst cX5_worst 5 (some .int) ∈ WG := wg_mem 833 (rfl) rfl
theorem wM_X5_132 : Cond.methodLink RX5 132 yX5_size ∈ WG := wg_mem 834 (by decide +kernel) rfl
theorem wT_yX5_size : Cond.static yX5_size ∈ WG := wg_mem 835 (by decide +kernel) rfl
set_option maxRecDepth 100000 in
theorem wC_yX5_size : Cond.code yX5_size cX5_size 1 (some .int) ∈ WG := wg_mem 836 (rfl) rfl
theorem wM_L_80 : Cond.methodLink RL 80 yX5_change ∈ WG := wg_mem 837 (by decide +kernel) rfl
theorem wI_yX5_change : Cond.instanceMethod yX5_change ∈ WG := wg_mem 838 (by decide +kernel) rfl
theorem wS_yX5_change : Cond.selects RX5 yX5_change yX5_change ∈ WG := wg_mem 839 (by decide +kernel) rfl
set_option maxRecDepth 100000 in
theorem wC_yX5_change : Cond.code yX5_change cX5_change 4 (some .int) ∈ WG := wg_mem 840 (rfl) rfl
theorem wM_X5_135 : Cond.methodLink RX5 135 yX5_keeps ∈ WG := wg_mem 841 (by decide +kernel) rfl
theorem wI_yX5_keeps : Cond.instanceMethod yX5_keeps ∈ WG := wg_mem 843 (by decide +kernel) rfl
set_option maxRecDepth 100000 in
theorem wC_yX5_keeps : Cond.code yX5_keeps cX5_keeps 2 none ∈ WG := wg_mem 844 (rfl) rfl
theorem wM_L_84 : Cond.methodLink RL 84 yX5_swap ∈ WG := wg_mem 845 (by decide +kernel) rfl
theorem wI_yX5_swap : Cond.instanceMethod yX5_swap ∈ WG := wg_mem 846 (by decide +kernel) rfl
theorem wS_yX5_swap : Cond.selects RX5 yX5_swap yX5_swap ∈ WG := wg_mem 847 (by decide +kernel) rfl
set_option maxRecDepth 100000 in
theorem wC_yX5_swap : Cond.code yX5_swap cX5_swap 3 (some .int) ∈ WG := wg_mem 848 (rfl) rfl
theorem wM_X5_138 : Cond.methodLink RX5 138 yX5_swaps ∈ WG := wg_mem 849 (by decide +kernel) rfl
theorem wI_yX5_swaps : Cond.instanceMethod yX5_swaps ∈ WG := wg_mem 851 (by decide +kernel) rfl
set_option maxRecDepth 100000 in
theorem wC_yX5_swaps : Cond.code yX5_swaps cX5_swaps 4 none ∈ WG := wg_mem 852 (rfl) rfl
theorem wM_L_88 : Cond.methodLink RL 88 yX5_step ∈ WG := wg_mem 853 (by decide +kernel) rfl
theorem wI_yX5_step : Cond.instanceMethod yX5_step ∈ WG := wg_mem 854 (by decide +kernel) rfl
theorem wS_yX5_step : Cond.selects RX5 yX5_step yX5_step ∈ WG := wg_mem 855 (by decide +kernel) rfl
set_option maxRecDepth 100000 in
theorem wC_yX5_step : Cond.code yX5_step cX5_step 1 (some .int) ∈ WG := wg_mem 856 (rfl) rfl
theorem wM_X5_155 : Cond.methodLink RX5 155 yX5_lessens ∈ WG := wg_mem 857 (by decide +kernel) rfl
theorem wI_yX5_lessens : Cond.instanceMethod yX5_lessens ∈ WG := wg_mem 859 (by decide +kernel) rfl
set_option maxRecDepth 100000 in
theorem wC_yX5_lessens : Cond.code yX5_lessens cX5_lessens 1 (some .boolean) ∈ WG := wg_mem 860 (rfl) rfl
theorem wM_X5_152 : Cond.methodLink RX5 152 yX5_finds ∈ WG := wg_mem 861 (by decide +kernel) rfl
theorem wI_yX5_finds : Cond.instanceMethod yX5_finds ∈ WG := wg_mem 863 (by decide +kernel) rfl
set_option maxRecDepth 100000 in
theorem wC_yX5_finds : Cond.code yX5_finds cX5_finds 3 (some .boolean) ∈ WG := wg_mem 864 (rfl) rfl
theorem wM_X5_145 : Cond.methodLink RX5 145 yX5_isFree ∈ WG := wg_mem 865 (by decide +kernel) rfl
theorem wI_yX5_isFree : Cond.instanceMethod yX5_isFree ∈ WG := wg_mem 867 (by decide +kernel) rfl
set_option maxRecDepth 100000 in
theorem wC_yX5_isFree : Cond.code yX5_isFree cX5_isFree 2 (some .boolean) ∈ WG := wg_mem 868 (rfl) rfl
theorem wM_X5_142 : Cond.methodLink RX5 142 yX5_isTied ∈ WG := wg_mem 869 (by decide +kernel) rfl
theorem wI_yX5_isTied : Cond.instanceMethod yX5_isTied ∈ WG := wg_mem 871 (by decide +kernel) rfl
set_option maxRecDepth 100000 in
theorem wC_yX5_isTied : Cond.code yX5_isTied cX5_isTied 4 (some .boolean) ∈ WG := wg_mem 872 (rfl) rfl
theorem wM_X5_148 : Cond.methodLink RX5 148 yX5_looks ∈ WG := wg_mem 873 (by decide +kernel) rfl
theorem wI_yX5_looks : Cond.instanceMethod yX5_looks ∈ WG := wg_mem 875 (by decide +kernel) rfl
set_option maxRecDepth 100000 in
theorem wC_yX5_looks : Cond.code yX5_looks cX5_looks 5 none ∈ WG := wg_mem 876 (rfl) rfl
theorem wM_X5_158 : Cond.methodLink RX5 158 yX5_steps ∈ WG := wg_mem 877 (by decide +kernel) rfl
theorem wI_yX5_steps : Cond.instanceMethod yX5_steps ∈ WG := wg_mem 879 (by decide +kernel) rfl
set_option maxRecDepth 100000 in
theorem wC_yX5_steps : Cond.code yX5_steps cX5_steps 1 none ∈ WG := wg_mem 880 (rfl) rfl
theorem wM_L_92 : Cond.methodLink RL 92 yX5_down ∈ WG := wg_mem 881 (by decide +kernel) rfl
theorem wI_yX5_down : Cond.instanceMethod yX5_down ∈ WG := wg_mem 882 (by decide +kernel) rfl
theorem wS_yX5_down : Cond.selects RX5 yX5_down yX5_down ∈ WG := wg_mem 883 (by decide +kernel) rfl
set_option maxRecDepth 100000 in
theorem wC_yX5_down : Cond.code yX5_down cX5_down 2 (some .int) ∈ WG := wg_mem 884 (rfl) rfl
theorem wM_L_100 : Cond.methodLink RL 100 yX5_undo ∈ WG := wg_mem 885 (by decide +kernel) rfl
theorem wI_yX5_undo : Cond.instanceMethod yX5_undo ∈ WG := wg_mem 886 (by decide +kernel) rfl
theorem wS_yX5_undo : Cond.selects RX5 yX5_undo yX5_undo ∈ WG := wg_mem 887 (by decide +kernel) rfl
set_option maxRecDepth 100000 in
theorem wC_yX5_undo : Cond.code yX5_undo cX5_undo 2 (some .int) ∈ WG := wg_mem 888 (rfl) rfl
theorem wM_L_96 : Cond.methodLink RL 96 yX5_lay ∈ WG := wg_mem 889 (by decide +kernel) rfl
theorem wI_yX5_lay : Cond.instanceMethod yX5_lay ∈ WG := wg_mem 890 (by decide +kernel) rfl
theorem wS_yX5_lay : Cond.selects RX5 yX5_lay yX5_lay ∈ WG := wg_mem 891 (by decide +kernel) rfl
set_option maxRecDepth 100000 in
theorem wC_yX5_lay : Cond.code yX5_lay cX5_lay 3 (some .int) ∈ WG := wg_mem 892 (rfl) rfl
theorem wM_X5_173 : Cond.methodLink RX5 173 yX5_goes ∈ WG := wg_mem 893 (by decide +kernel) rfl
theorem wI_yX5_goes : Cond.instanceMethod yX5_goes ∈ WG := wg_mem 895 (by decide +kernel) rfl
set_option maxRecDepth 100000 in
theorem wC_yX5_goes : Cond.code yX5_goes cX5_goes 3 none ∈ WG := wg_mem 896 (rfl) rfl
theorem wM_X5_170 : Cond.methodLink RX5 170 yX5_meets ∈ WG := wg_mem 897 (by decide +kernel) rfl
theorem wI_yX5_meets : Cond.instanceMethod yX5_meets ∈ WG := wg_mem 899 (by decide +kernel) rfl
set_option maxRecDepth 100000 in
theorem wC_yX5_meets : Cond.code yX5_meets cX5_meets 4 none ∈ WG := wg_mem 900 (rfl) rfl
theorem wM_X5_176 : Cond.methodLink RX5 176 yX5_bestBy ∈ WG := wg_mem 901 (by decide +kernel) rfl
theorem wI_yX5_bestBy : Cond.instanceMethod yX5_bestBy ∈ WG := wg_mem 903 (by decide +kernel) rfl
set_option maxRecDepth 100000 in
theorem wC_yX5_bestBy : Cond.code yX5_bestBy cX5_bestBy 4 (some .int) ∈ WG := wg_mem 904 (rfl) rfl
theorem wM_L_104 : Cond.methodLink RL 104 yX5_best ∈ WG := wg_mem 905 (by decide +kernel) rfl
theorem wI_yX5_best : Cond.instanceMethod yX5_best ∈ WG := wg_mem 906 (by decide +kernel) rfl
theorem wS_yX5_best : Cond.selects RX5 yX5_best yX5_best ∈ WG := wg_mem 907 (by decide +kernel) rfl
set_option maxRecDepth 100000 in
theorem wC_yX5_best : Cond.code yX5_best cX5_best 3 (some .int) ∈ WG := wg_mem 908 (rfl) rfl
theorem wM_L_108 : Cond.methodLink RL 108 yX5_phase ∈ WG := wg_mem 909 (by decide +kernel) rfl
theorem wI_yX5_phase : Cond.instanceMethod yX5_phase ∈ WG := wg_mem 910 (by decide +kernel) rfl
theorem wS_yX5_phase : Cond.selects RX5 yX5_phase yX5_phase ∈ WG := wg_mem 911 (by decide +kernel) rfl
set_option maxRecDepth 100000 in
theorem wC_yX5_phase : Cond.code yX5_phase cX5_phase 3 (some .int) ∈ WG := wg_mem 912 (rfl) rfl
theorem wM_L_112 : Cond.methodLink RL 112 yX5_by ∈ WG := wg_mem 913 (by decide +kernel) rfl
theorem wI_yX5_by : Cond.instanceMethod yX5_by ∈ WG := wg_mem 914 (by decide +kernel) rfl
theorem wS_yX5_by : Cond.selects RX5 yX5_by yX5_by ∈ WG := wg_mem 915 (by decide +kernel) rfl
set_option maxRecDepth 100000 in
theorem wC_yX5_by : Cond.code yX5_by cX5_by 3 (some .int) ∈ WG := wg_mem 916 (rfl) rfl
theorem wM_L_116 : Cond.methodLink RL 116 yX5_fewest ∈ WG := wg_mem 917 (by decide +kernel) rfl
theorem wI_yX5_fewest : Cond.instanceMethod yX5_fewest ∈ WG := wg_mem 918 (by decide +kernel) rfl
theorem wS_yX5_fewest : Cond.selects RX5 yX5_fewest yX5_fewest ∈ WG := wg_mem 919 (by decide +kernel) rfl
set_option maxRecDepth 100000 in
theorem wC_yX5_fewest : Cond.code yX5_fewest cX5_fewest 3 (some .int) ∈ WG := wg_mem 920 (rfl) rfl
theorem wM_L_120 : Cond.methodLink RL 120 yX5_many ∈ WG := wg_mem 921 (by decide +kernel) rfl
theorem wI_yX5_many : Cond.instanceMethod yX5_many ∈ WG := wg_mem 922 (by decide +kernel) rfl
theorem wS_yX5_many : Cond.selects RX5 yX5_many yX5_many ∈ WG := wg_mem 923 (by decide +kernel) rfl
set_option maxRecDepth 100000 in
theorem wC_yX5_many : Cond.code yX5_many cX5_many 1 (some .int) ∈ WG := wg_mem 924 (rfl) rfl
theorem wM_L_124 : Cond.methodLink RL 124 yX5_next ∈ WG := wg_mem 925 (by decide +kernel) rfl
theorem wI_yX5_next : Cond.instanceMethod yX5_next ∈ WG := wg_mem 926 (by decide +kernel) rfl
theorem wS_yX5_next : Cond.selects RX5 yX5_next yX5_next ∈ WG := wg_mem 927 (by decide +kernel) rfl
set_option maxRecDepth 100000 in
theorem wC_yX5_next : Cond.code yX5_next cX5_next 2 (some .int) ∈ WG := wg_mem 928 (rfl) rfl
theorem wM_L_128 : Cond.methodLink RL 128 yX5_told ∈ WG := wg_mem 929 (by decide +kernel) rfl
theorem wI_yX5_told : Cond.instanceMethod yX5_told ∈ WG := wg_mem 930 (by decide +kernel) rfl
theorem wS_yX5_told : Cond.selects RX5 yX5_told yX5_told ∈ WG := wg_mem 931 (by decide +kernel) rfl
set_option maxRecDepth 100000 in
theorem wC_yX5_told : Cond.code yX5_told cX5_told 2 (some .int) ∈ WG := wg_mem 932 (rfl) rfl
theorem wM_X5_179 : Cond.methodLink RX5 179 yX5_toldOf ∈ WG := wg_mem 933 (by decide +kernel) rfl
theorem wI_yX5_toldOf : Cond.instanceMethod yX5_toldOf ∈ WG := wg_mem 935 (by decide +kernel) rfl
set_option maxRecDepth 100000 in
theorem wC_yX5_toldOf : Cond.code yX5_toldOf cX5_toldOf 4 (some .int) ∈ WG := wg_mem 936 (rfl) rfl
theorem wM_L_133 : Cond.methodLink RL 133 yX5_digest ∈ WG := wg_mem 937 (by decide +kernel) rfl
theorem wI_yX5_digest : Cond.instanceMethod yX5_digest ∈ WG := wg_mem 938 (by decide +kernel) rfl
theorem wS_yX5_digest : Cond.selects RX5 yX5_digest yX5_digest ∈ WG := wg_mem 939 (by decide +kernel) rfl
set_option maxRecDepth 100000 in
theorem wC_yX5_digest : Cond.code yX5_digest cX5_digest 4 (some .long) ∈ WG := wg_mem 940 (rfl) rfl
theorem wK_X5_182 : Cond.constantLong RX5 182 (2011) ∈ WG := wg_mem 941 (by decide +kernel) rfl
theorem wK_X5_184 : Cond.constantLong RX5 184 (31) ∈ WG := wg_mem 942 (by decide +kernel) rfl
theorem wg_of {ws : List Cond} (ps : List Nat) (hp : ws = ps.filterMap (fun i => lw_tbl[i]?)) (g : ws.all goodWord = true) : ∀ w ∈ ws, w ∈ WG := fun w hw => List.mem_filter.mpr ⟨by rw [hp] at hw; obtain ⟨i, -, hi⟩ := List.mem_filterMap.mp hw; exact List.mem_of_getElem? hi, List.all_eq_true.mp g w hw⟩
theorem wU_X0 : ∀ w ∈ u_ws RX0 TX0 14, w ∈ WG := wg_of [159, 161, 163, 165, 167, 169, 171, 173, 175, 177, 179, 181, 183, 185] (by decide +kernel) (by decide +kernel)
theorem wU_X1 : ∀ w ∈ u_ws RX1 TX1 6, w ∈ WG := wg_of [205, 207, 209, 211, 213, 215] (by decide +kernel) (by decide +kernel)
theorem wU_X2 : ∀ w ∈ u_ws RX2 TX2 12, w ∈ WG := wg_of [110, 112, 114, 116, 118, 120, 122, 124, 126, 128, 130, 132] (by decide +kernel) (by decide +kernel)
theorem wU_X3 : ∀ w ∈ u_ws RX3 TX3 2, w ∈ WG := wg_of [227, 229] (by decide +kernel) (by decide +kernel)
theorem wU_X4 : ∀ w ∈ u_ws RX4 TX4 7, w ∈ WG := wg_of [239, 241, 243, 245, 247, 249, 251] (by decide +kernel) (by decide +kernel)
theorem wU_X5 : ∀ w ∈ u_ws RX5 TX5 21, w ∈ WG := wg_of [667, 669, 671, 673, 675, 677, 679, 681, 683, 685, 687, 689, 691, 693, 695, 697, 699, 701, 703, 705, 707] (by decide +kernel) (by decide +kernel)
