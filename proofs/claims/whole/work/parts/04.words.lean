set_option maxRecDepth 20000 in
theorem ckL_7 : Cond.classLink "ReversiblePartsLaw" 7 "ReversibleParts" ∈ jTW := j_at 40 rfl rfl
set_option maxRecDepth 20000 in
theorem lkL_9 : Cond.methodLink "ReversiblePartsLaw" 9 yR_init ∈ jTW := j_at 42 rfl rfl
set_option maxRecDepth 20000 in
theorem lkR_1 : Cond.methodLink "ReversibleParts" 1 Lib.objectInit ∈ jTW := j_at 45 rfl rfl
set_option maxRecDepth 20000 in
theorem ckR_7 : Cond.classLink "ReversibleParts" 7 "ReversibleParts$Table" ∈ jTW := j_at 48 rfl rfl
set_option maxRecDepth 20000 in
theorem lkR_9 : Cond.methodLink "ReversibleParts" 9 yT_init ∈ jTW := j_at 50 rfl rfl
set_option maxRecDepth 20000 in
theorem lkT_3 : Cond.methodLink "ReversibleParts$Table" 3 Lib.objectInit ∈ jTW := j_at 53 rfl rfl
set_option maxRecDepth 20000 in
theorem fkT_21 : Cond.fieldLink "ReversibleParts$Table" 21 "ReversibleParts$Table" "bits" "I" ∈ jTW := j_at 54 rfl rfl
set_option maxRecDepth 20000 in
theorem fkT_25 : Cond.fieldLink "ReversibleParts$Table" 25 "ReversibleParts$Table" "size" "I" ∈ jTW := j_at 55 rfl rfl
set_option maxRecDepth 20000 in
theorem fkT_9 : Cond.fieldLink "ReversibleParts$Table" 9 "ReversibleParts$Table" "to" "[I" ∈ jTW := j_at 56 rfl rfl
set_option maxRecDepth 20000 in
theorem fkT_15 : Cond.fieldLink "ReversibleParts$Table" 15 "ReversibleParts$Table" "rest" "[I" ∈ jTW := j_at 57 rfl rfl
set_option maxRecDepth 20000 in
theorem fkT_18 : Cond.fieldLink "ReversibleParts$Table" 18 "ReversibleParts$Table" "found" "[I" ∈ jTW := j_at 58 rfl rfl
set_option maxRecDepth 20000 in
theorem fkT_39 : Cond.fieldLink "ReversibleParts$Table" 39 "ReversibleParts$Table" "foundCount" "I" ∈ jTW := j_at 59 rfl rfl
set_option maxRecDepth 20000 in
theorem ckR_16 : Cond.classLink "ReversibleParts" 16 "ReversibleParts$Forms" ∈ jTW := j_at 74 rfl rfl
set_option maxRecDepth 20000 in
theorem lkR_18 : Cond.methodLink "ReversibleParts" 18 yF_init ∈ jTW := j_at 76 rfl rfl
set_option maxRecDepth 20000 in
theorem lkF_5 : Cond.methodLink "ReversibleParts$Forms" 5 Lib.objectInit ∈ jTW := j_at 79 rfl rfl
set_option maxRecDepth 20000 in
theorem fkF_11 : Cond.fieldLink "ReversibleParts$Forms" 11 "ReversibleParts$Forms" "row" "[J" ∈ jTW := j_at 81 rfl rfl
set_option maxRecDepth 20000 in
theorem fkF_17 : Cond.fieldLink "ReversibleParts$Forms" 17 "ReversibleParts$Forms" "filled" "I" ∈ jTW := j_at 82 rfl rfl
set_option maxRecDepth 20000 in
theorem ckR_23 : Cond.classLink "ReversibleParts" 23 "ReversibleParts$Steps" ∈ jTW := j_at 89 rfl rfl
set_option maxRecDepth 20000 in
theorem lkR_25 : Cond.methodLink "ReversibleParts" 25 yS_init ∈ jTW := j_at 91 rfl rfl
set_option maxRecDepth 20000 in
theorem lkS_3 : Cond.methodLink "ReversibleParts$Steps" 3 Lib.objectInit ∈ jTW := j_at 94 rfl rfl
set_option maxRecDepth 20000 in
theorem ckS_19 : Cond.classLink "ReversibleParts$Steps" 19 "ReversibleParts$Moves" ∈ jTW := j_at 95 rfl rfl
set_option maxRecDepth 20000 in
theorem lkS_25 : Cond.methodLink "ReversibleParts$Steps" 25 yV_init ∈ jTW := j_at 98 rfl rfl
set_option maxRecDepth 20000 in
theorem lkV_3 : Cond.methodLink "ReversibleParts$Moves" 3 Lib.objectInit ∈ jTW := j_at 101 rfl rfl
set_option maxRecDepth 20000 in
theorem fkV_9 : Cond.fieldLink "ReversibleParts$Moves" 9 "ReversibleParts$Moves" "row" "[I" ∈ jTW := j_at 102 rfl rfl
set_option maxRecDepth 20000 in
theorem fkS_9 : Cond.fieldLink "ReversibleParts$Steps" 9 "ReversibleParts$Steps" "count" "I" ∈ jTW := j_at 106 rfl rfl
set_option maxRecDepth 20000 in
theorem fkS_15 : Cond.fieldLink "ReversibleParts$Steps" 15 "ReversibleParts$Steps" "needs" "[I" ∈ jTW := j_at 107 rfl rfl
set_option maxRecDepth 20000 in
theorem fkS_21 : Cond.fieldLink "ReversibleParts$Steps" 21 "ReversibleParts$Steps" "known" "[LReversibleParts$Moves;" ∈ jTW := j_at 108 rfl rfl
set_option maxRecDepth 20000 in
theorem fkS_28 : Cond.fieldLink "ReversibleParts$Steps" 28 "ReversibleParts$Steps" "nothing" "LReversibleParts$Moves;" ∈ jTW := j_at 109 rfl rfl
set_option maxRecDepth 20000 in
theorem fkS_32 : Cond.fieldLink "ReversibleParts$Steps" 32 "ReversibleParts$Steps" "left" "[I" ∈ jTW := j_at 110 rfl rfl
set_option maxRecDepth 20000 in
theorem fkS_35 : Cond.fieldLink "ReversibleParts$Steps" 35 "ReversibleParts$Steps" "queue" "[I" ∈ jTW := j_at 111 rfl rfl
set_option maxRecDepth 20000 in
theorem fkS_86 : Cond.fieldLink "ReversibleParts$Steps" 86 "ReversibleParts$Steps" "queued" "I" ∈ jTW := j_at 112 rfl rfl
set_option maxRecDepth 20000 in
theorem fkR_10 : Cond.fieldLink "ReversibleParts" 10 "ReversibleParts" "table" "LReversibleParts$Table;" ∈ jTW := j_at 128 rfl rfl
set_option maxRecDepth 20000 in
theorem fkR_19 : Cond.fieldLink "ReversibleParts" 19 "ReversibleParts" "forms" "LReversibleParts$Forms;" ∈ jTW := j_at 129 rfl rfl
set_option maxRecDepth 20000 in
theorem fkR_26 : Cond.fieldLink "ReversibleParts" 26 "ReversibleParts" "steps" "LReversibleParts$Steps;" ∈ jTW := j_at 130 rfl rfl
set_option maxRecDepth 20000 in
theorem lkL_13 : Cond.methodLink "ReversiblePartsLaw" 13 yR_begin ∈ jTW := j_at 138 rfl rfl
set_option maxRecDepth 20000 in
theorem lkR_30 : Cond.methodLink "ReversibleParts" 30 yT_startWith ∈ jTW := j_at 142 rfl rfl
set_option maxRecDepth 20000 in
theorem lkL_18 : Cond.methodLink "ReversiblePartsLaw" 18 yR_put ∈ jTW := j_at 146 rfl rfl
set_option maxRecDepth 20000 in
theorem lkR_34 : Cond.methodLink "ReversibleParts" 34 yT_set ∈ jTW := j_at 150 rfl rfl
set_option maxRecDepth 20000 in
theorem lkT_28 : Cond.methodLink "ReversibleParts$Table" 28 yT_hasValue ∈ jTW := j_at 154 rfl rfl
set_option maxRecDepth 20000 in
theorem lkL_23 : Cond.methodLink "ReversiblePartsLaw" 23 yR_apply ∈ jTW := j_at 158 rfl rfl
set_option maxRecDepth 20000 in
theorem lkR_38 : Cond.methodLink "ReversibleParts" 38 yT_change ∈ jTW := j_at 162 rfl rfl
set_option maxRecDepth 20000 in
theorem lkT_32 : Cond.methodLink "ReversibleParts$Table" 32 yT_hasGate ∈ jTW := j_at 166 rfl rfl
set_option maxRecDepth 20000 in
theorem lkT_35 : Cond.methodLink "ReversibleParts$Table" 35 yT_changeAll ∈ jTW := j_at 170 rfl rfl
set_option maxRecDepth 20000 in
theorem lkL_27 : Cond.methodLink "ReversiblePartsLaw" 27 yR_gate ∈ jTW := j_at 174 rfl rfl
set_option maxRecDepth 20000 in
theorem lkR_41 : Cond.methodLink "ReversibleParts" 41 yT_isPermutation ∈ jTW := j_at 178 rfl rfl
set_option maxRecDepth 20000 in
theorem lkR_45 : Cond.methodLink "ReversibleParts" 45 yT_findGates ∈ jTW := j_at 182 rfl rfl
set_option maxRecDepth 20000 in
theorem lkT_42 : Cond.methodLink "ReversibleParts$Table" 42 yT_settleRow ∈ jTW := j_at 186 rfl rfl
set_option maxRecDepth 20000 in
theorem lkT_46 : Cond.methodLink "ReversibleParts$Table" 46 yT_useGate ∈ jTW := j_at 190 rfl rfl
set_option maxRecDepth 20000 in
theorem lkR_49 : Cond.methodLink "ReversibleParts" 49 yT_foundFromLast ∈ jTW := j_at 194 rfl rfl
set_option maxRecDepth 20000 in
theorem lkL_32 : Cond.methodLink "ReversiblePartsLaw" 32 yR_look ∈ jTW := j_at 198 rfl rfl
set_option maxRecDepth 20000 in
theorem lkR_53 : Cond.methodLink "ReversibleParts" 53 yT_get ∈ jTW := j_at 202 rfl rfl
set_option maxRecDepth 20000 in
theorem lkL_36 : Cond.methodLink "ReversiblePartsLaw" 36 yR_form ∈ jTW := j_at 206 rfl rfl
set_option maxRecDepth 20000 in
theorem lkR_56 : Cond.methodLink "ReversibleParts" 56 yT_bitCount ∈ jTW := j_at 210 rfl rfl
set_option maxRecDepth 20000 in
theorem lkR_59 : Cond.methodLink "ReversibleParts" 59 yF_least ∈ jTW := j_at 214 rfl rfl
set_option maxRecDepth 20000 in
theorem lkF_25 : Cond.methodLink "ReversibleParts$Forms" 25 yF_fillLevel ∈ jTW := j_at 218 rfl rfl
set_option maxRecDepth 20000 in
theorem fkF_33 : Cond.fieldLink "ReversibleParts$Forms" 33 "ReversibleParts$Forms" "START" "[I" ∈ jTW := j_at 222 rfl rfl
set_option maxRecDepth 20000 in
theorem lkF_29 : Cond.methodLink "ReversibleParts$Forms" 29 yF_leastFrom ∈ jTW := j_at 224 rfl rfl
set_option maxRecDepth 20000 in
theorem lkF_37 : Cond.methodLink "ReversibleParts$Forms" 37 yP_count ∈ jTW := j_at 228 rfl rfl
set_option maxRecDepth 20000 in
theorem lkF_21 : Cond.methodLink "ReversibleParts$Forms" 21 yF_sizeOf ∈ jTW := j_at 232 rfl rfl
set_option maxRecDepth 20000 in
theorem lkF_45 : Cond.methodLink "ReversibleParts$Forms" 45 yF_join ∈ jTW := j_at 235 rfl rfl
set_option maxRecDepth 20000 in
theorem lkF_49 : Cond.methodLink "ReversibleParts$Forms" 49 Lib.MathLoose.min_long.x ∈ jTW := j_at 240 rfl rfl
set_option maxRecDepth 20000 in
theorem lkR_63 : Cond.methodLink "ReversibleParts" 63 yF_sizeOf ∈ jTW := j_at 243 rfl rfl
set_option maxRecDepth 20000 in
theorem lkR_67 : Cond.methodLink "ReversibleParts" 67 yF_numberAt ∈ jTW := j_at 244 rfl rfl
set_option maxRecDepth 20000 in
theorem lkL_41 : Cond.methodLink "ReversiblePartsLaw" 41 yR_product ∈ jTW := j_at 247 rfl rfl
set_option maxRecDepth 20000 in
theorem lkR_71 : Cond.methodLink "ReversibleParts" 71 yP_count ∈ jTW := j_at 251 rfl rfl
set_option maxRecDepth 20000 in
theorem lkR_76 : Cond.methodLink "ReversibleParts" 76 yP_function ∈ jTW := j_at 252 rfl rfl
set_option maxRecDepth 20000 in
theorem lkP_7 : Cond.methodLink "ReversibleParts$Products" 7 yP_holds ∈ jTW := j_at 255 rfl rfl
set_option maxRecDepth 20000 in
theorem lkL_45 : Cond.methodLink "ReversiblePartsLaw" 45 yR_program ∈ jTW := j_at 258 rfl rfl
set_option maxRecDepth 20000 in
theorem lkR_80 : Cond.methodLink "ReversibleParts" 80 yS_startWith ∈ jTW := j_at 262 rfl rfl
set_option maxRecDepth 20000 in
theorem lkS_38 : Cond.methodLink "ReversibleParts$Steps" 38 yS_forget ∈ jTW := j_at 266 rfl rfl
set_option maxRecDepth 20000 in
theorem lkL_49 : Cond.methodLink "ReversiblePartsLaw" 49 yR_need ∈ jTW := j_at 270 rfl rfl
set_option maxRecDepth 20000 in
theorem lkR_81 : Cond.methodLink "ReversibleParts" 81 yS_setNeeds ∈ jTW := j_at 274 rfl rfl
set_option maxRecDepth 20000 in
theorem lkL_53 : Cond.methodLink "ReversiblePartsLaw" 53 yR_move ∈ jTW := j_at 278 rfl rfl
set_option maxRecDepth 20000 in
theorem lkR_84 : Cond.methodLink "ReversibleParts" 84 yS_movesWithin ∈ jTW := j_at 282 rfl rfl
set_option maxRecDepth 20000 in
theorem lkS_52 : Cond.methodLink "ReversibleParts$Steps" 52 Lib.Math.min.name ∈ jTW := j_at 286 rfl rfl
set_option maxRecDepth 20000 in
theorem lkS_58 : Cond.methodLink "ReversibleParts$Steps" 58 Lib.Math.max.name ∈ jTW := j_at 289 rfl rfl
set_option maxRecDepth 20000 in
theorem lkS_61 : Cond.methodLink "ReversibleParts$Steps" 61 yS_search ∈ jTW := j_at 292 rfl rfl
set_option maxRecDepth 20000 in
theorem lkS_73 : Cond.methodLink "ReversibleParts$Steps" 73 yS_makeRoom ∈ jTW := j_at 296 rfl rfl
set_option maxRecDepth 20000 in
theorem lkS_64 : Cond.methodLink "ReversibleParts$Steps" 64 yS_wantedSteps ∈ jTW := j_at 300 rfl rfl
set_option maxRecDepth 20000 in
theorem lkS_76 : Cond.methodLink "ReversibleParts$Steps" 76 yS_spreadFromGoal ∈ jTW := j_at 304 rfl rfl
set_option maxRecDepth 20000 in
theorem lkS_89 : Cond.methodLink "ReversibleParts$Steps" 89 yS_enter ∈ jTW := j_at 308 rfl rfl
set_option maxRecDepth 20000 in
theorem lkS_92 : Cond.methodLink "ReversibleParts$Steps" 92 yS_spreadFrom ∈ jTW := j_at 312 rfl rfl
set_option maxRecDepth 20000 in
theorem lkS_67 : Cond.methodLink "ReversibleParts$Steps" 67 yJ_bitCount ∈ jTW := j_at 316 rfl rfl
set_option maxRecDepth 20000 in
theorem lkS_49 : Cond.methodLink "ReversibleParts$Steps" 49 yV_length ∈ jTW := j_at 322 rfl rfl
set_option maxRecDepth 20000 in
theorem lkS_80 : Cond.methodLink "ReversibleParts$Steps" 80 yS_firstStepNearer ∈ jTW := j_at 326 rfl rfl
set_option maxRecDepth 20000 in
theorem lkS_83 : Cond.methodLink "ReversibleParts$Steps" 83 yV_set ∈ jTW := j_at 330 rfl rfl
set_option maxRecDepth 20000 in
theorem lkR_88 : Cond.methodLink "ReversibleParts" 88 yV_length ∈ jTW := j_at 334 rfl rfl
set_option maxRecDepth 20000 in
theorem lkR_93 : Cond.methodLink "ReversibleParts" 93 yV_at ∈ jTW := j_at 335 rfl rfl
set_option maxRecDepth 20000 in
theorem lkL_57 : Cond.methodLink "ReversiblePartsLaw" 57 yR_marks ∈ jTW := j_at 339 rfl rfl
set_option maxRecDepth 20000 in
theorem lkR_96 : Cond.methodLink "ReversibleParts" 96 yS_fewestMarks ∈ jTW := j_at 343 rfl rfl
set_option maxRecDepth 20000 in
theorem lkS_41 : Cond.methodLink "ReversibleParts$Steps" 41 yS_fewestThinkable ∈ jTW := j_at 347 rfl rfl
set_option maxRecDepth 20000 in
theorem lkS_45 : Cond.methodLink "ReversibleParts$Steps" 45 yS_movesWithin ∈ jTW := j_at 351 rfl rfl
set_option maxRecDepth 20000 in
theorem lkL_62 : Cond.methodLink "ReversiblePartsLaw" 62 yR_total ∈ jTW := j_at 352 rfl rfl
set_option maxRecDepth 20000 in
theorem lkR_99 : Cond.methodLink "ReversibleParts" 99 yS_count ∈ jTW := j_at 356 rfl rfl
set_option maxRecDepth 20000 in
theorem ckL_10 : Cond.classLink "ReversiblePartsLaw" 10 "ReversiblePartsModel" ∈ jTW := j_at 360 rfl rfl
set_option maxRecDepth 20000 in
theorem lkL_12 : Cond.methodLink "ReversiblePartsLaw" 12 yM_init ∈ jTW := j_at 362 rfl rfl
set_option maxRecDepth 20000 in
theorem lkM_1 : Cond.methodLink "ReversiblePartsModel" 1 Lib.objectInit ∈ jTW := j_at 365 rfl rfl
set_option maxRecDepth 20000 in
theorem lkM_45 : Cond.methodLink "ReversiblePartsModel" 45 yM_start ∈ jTW := j_at 367 rfl rfl
set_option maxRecDepth 20000 in
theorem fkM_53 : Cond.fieldLink "ReversiblePartsModel" 53 "ReversiblePartsModel" "thrown" "I" ∈ jTW := j_at 371 rfl rfl
set_option maxRecDepth 20000 in
theorem fkM_56 : Cond.fieldLink "ReversiblePartsModel" 56 "ReversiblePartsModel" "bits" "I" ∈ jTW := j_at 372 rfl rfl
set_option maxRecDepth 20000 in
theorem fkM_7 : Cond.fieldLink "ReversiblePartsModel" 7 "ReversiblePartsModel" "table" "[I" ∈ jTW := j_at 373 rfl rfl
set_option maxRecDepth 20000 in
theorem fkM_49 : Cond.fieldLink "ReversiblePartsModel" 49 "ReversiblePartsModel" "steps" "I" ∈ jTW := j_at 374 rfl rfl
set_option maxRecDepth 20000 in
theorem fkM_13 : Cond.fieldLink "ReversiblePartsModel" 13 "ReversiblePartsModel" "needs" "[I" ∈ jTW := j_at 375 rfl rfl
set_option maxRecDepth 20000 in
theorem fkM_16 : Cond.fieldLink "ReversiblePartsModel" 16 "ReversiblePartsModel" "work" "[I" ∈ jTW := j_at 376 rfl rfl
set_option maxRecDepth 20000 in
theorem fkM_19 : Cond.fieldLink "ReversiblePartsModel" 19 "ReversiblePartsModel" "made" "[I" ∈ jTW := j_at 377 rfl rfl
set_option maxRecDepth 20000 in
theorem fkM_71 : Cond.fieldLink "ReversiblePartsModel" 71 "ReversiblePartsModel" "many" "I" ∈ jTW := j_at 378 rfl rfl
set_option maxRecDepth 20000 in
theorem fkM_22 : Cond.fieldLink "ReversiblePartsModel" 22 "ReversiblePartsModel" "isKnown" "[Z" ∈ jTW := j_at 379 rfl rfl
set_option maxRecDepth 20000 in
theorem fkM_27 : Cond.fieldLink "ReversiblePartsModel" 27 "ReversiblePartsModel" "cost" "[I" ∈ jTW := j_at 380 rfl rfl
set_option maxRecDepth 20000 in
theorem fkM_30 : Cond.fieldLink "ReversiblePartsModel" 30 "ReversiblePartsModel" "functionOf" "[I" ∈ jTW := j_at 381 rfl rfl
set_option maxRecDepth 20000 in
theorem fkM_33 : Cond.fieldLink "ReversiblePartsModel" 33 "ReversiblePartsModel" "isCome" "[Z" ∈ jTW := j_at 382 rfl rfl
set_option maxRecDepth 20000 in
theorem fkM_36 : Cond.fieldLink "ReversiblePartsModel" 36 "ReversiblePartsModel" "queue" "[I" ∈ jTW := j_at 383 rfl rfl
set_option maxRecDepth 20000 in
theorem fkM_39 : Cond.fieldLink "ReversiblePartsModel" 39 "ReversiblePartsModel" "source" "[I" ∈ jTW := j_at 384 rfl rfl
set_option maxRecDepth 20000 in
theorem fkM_42 : Cond.fieldLink "ReversiblePartsModel" 42 "ReversiblePartsModel" "by" "[I" ∈ jTW := j_at 385 rfl rfl
set_option maxRecDepth 20000 in
theorem lkL_17 : Cond.methodLink "ReversiblePartsLaw" 17 yM_begin ∈ jTW := j_at 418 rfl rfl
set_option maxRecDepth 20000 in
theorem lkL_22 : Cond.methodLink "ReversiblePartsLaw" 22 yM_put ∈ jTW := j_at 422 rfl rfl
set_option maxRecDepth 20000 in
theorem lkM_63 : Cond.methodLink "ReversiblePartsModel" 63 yM_isValue ∈ jTW := j_at 426 rfl rfl
set_option maxRecDepth 20000 in
theorem lkM_59 : Cond.methodLink "ReversiblePartsModel" 59 yM_values ∈ jTW := j_at 430 rfl rfl
set_option maxRecDepth 20000 in
theorem lkL_26 : Cond.methodLink "ReversiblePartsLaw" 26 yM_apply ∈ jTW := j_at 434 rfl rfl
set_option maxRecDepth 20000 in
theorem lkM_67 : Cond.methodLink "ReversiblePartsModel" 67 yM_changed ∈ jTW := j_at 438 rfl rfl
set_option maxRecDepth 20000 in
theorem lkL_31 : Cond.methodLink "ReversiblePartsLaw" 31 yM_gate ∈ jTW := j_at 441 rfl rfl
set_option maxRecDepth 20000 in
theorem lkM_78 : Cond.methodLink "ReversiblePartsModel" 78 yM_isPermutation ∈ jTW := j_at 445 rfl rfl
set_option maxRecDepth 20000 in
theorem lkM_82 : Cond.methodLink "ReversiblePartsModel" 82 yM_findGates ∈ jTW := j_at 449 rfl rfl
set_option maxRecDepth 20000 in
theorem lkM_74 : Cond.methodLink "ReversiblePartsModel" 74 yM_doGate ∈ jTW := j_at 453 rfl rfl
set_option maxRecDepth 20000 in
theorem lkL_35 : Cond.methodLink "ReversiblePartsLaw" 35 yM_look ∈ jTW := j_at 457 rfl rfl
set_option maxRecDepth 20000 in
theorem lkL_40 : Cond.methodLink "ReversiblePartsLaw" 40 yM_form ∈ jTW := j_at 461 rfl rfl
set_option maxRecDepth 20000 in
theorem lkM_95 : Cond.methodLink "ReversiblePartsModel" 95 yM_functions ∈ jTW := j_at 465 rfl rfl
set_option maxRecDepth 20000 in
theorem lkM_101 : Cond.methodLink "ReversiblePartsModel" 101 yM_findCosts ∈ jTW := j_at 469 rfl rfl
set_option maxRecDepth 20000 in
theorem lkM_85 : Cond.methodLink "ReversiblePartsModel" 85 yM_products ∈ jTW := j_at 473 rfl rfl
set_option maxRecDepth 20000 in
theorem lkM_88 : Cond.methodLink "ReversiblePartsModel" 88 yM_productAt ∈ jTW := j_at 477 rfl rfl
set_option maxRecDepth 20000 in
theorem lkM_92 : Cond.methodLink "ReversiblePartsModel" 92 yM_functionFor ∈ jTW := j_at 481 rfl rfl
set_option maxRecDepth 20000 in
theorem lkM_98 : Cond.methodLink "ReversiblePartsModel" 98 yM_costAt ∈ jTW := j_at 485 rfl rfl
set_option maxRecDepth 20000 in
theorem lkL_44 : Cond.methodLink "ReversiblePartsLaw" 44 yM_product ∈ jTW := j_at 489 rfl rfl
set_option maxRecDepth 20000 in
theorem lkL_48 : Cond.methodLink "ReversiblePartsLaw" 48 yM_program ∈ jTW := j_at 493 rfl rfl
set_option maxRecDepth 20000 in
theorem lkL_52 : Cond.methodLink "ReversiblePartsLaw" 52 yM_need ∈ jTW := j_at 497 rfl rfl
set_option maxRecDepth 20000 in
theorem lkL_56 : Cond.methodLink "ReversiblePartsLaw" 56 yM_move ∈ jTW := j_at 501 rfl rfl
set_option maxRecDepth 20000 in
theorem lkM_107 : Cond.methodLink "ReversiblePartsModel" 107 yM_findEnd ∈ jTW := j_at 505 rfl rfl
set_option maxRecDepth 20000 in
theorem lkM_104 : Cond.methodLink "ReversiblePartsModel" 104 yM_count ∈ jTW := j_at 509 rfl rfl
set_option maxRecDepth 20000 in
theorem lkM_110 : Cond.methodLink "ReversiblePartsModel" 110 yM_lengthTo ∈ jTW := j_at 512 rfl rfl
set_option maxRecDepth 20000 in
theorem lkL_61 : Cond.methodLink "ReversiblePartsLaw" 61 yM_marks ∈ jTW := j_at 516 rfl rfl
set_option maxRecDepth 20000 in
theorem lkL_65 : Cond.methodLink "ReversiblePartsLaw" 65 yM_total ∈ jTW := j_at 520 rfl rfl
set_option maxRecDepth 20000 in
theorem kkF_15 : Cond.constantLong "ReversibleParts$Forms" 15 (lN (281474976710656)) ∈ jTW := j_at 80 rfl rfl
set_option maxRecDepth 20000 in
theorem kkF_43 : Cond.constantLong "ReversibleParts$Forms" 43 (lN (1970324836974591)) ∈ jTW := j_at 231 rfl rfl
set_option maxRecDepth 20000 in
theorem kkF_55 : Cond.constantLong "ReversibleParts$Forms" 55 (lN (16513)) ∈ jTW := j_at 238 rfl rfl
set_option maxRecDepth 20000 in
theorem kkF_57 : Cond.constantLong "ReversibleParts$Forms" 57 (lN (281474976710655)) ∈ jTW := j_at 239 rfl rfl
set_option maxRecDepth 20000 in
theorem kkJ_265 : Cond.constant "java/lang/Integer" 265 (nI (1431655765)) ∈ jTW := j_at 319 rfl rfl
set_option maxRecDepth 20000 in
theorem kkJ_266 : Cond.constant "java/lang/Integer" 266 (nI (858993459)) ∈ jTW := j_at 320 rfl rfl
set_option maxRecDepth 20000 in
theorem kkJ_267 : Cond.constant "java/lang/Integer" 267 (nI (252645135)) ∈ jTW := j_at 321 rfl rfl
set_option maxRecDepth 20000 in
theorem kkM_26 : Cond.constant "ReversiblePartsModel" 26 (nI (65812)) ∈ jTW := j_at 366 rfl rfl
set_option maxRecDepth 20000 in
theorem inR : Cond.instantiable "ReversibleParts" 3 ∈ jTW := j_at 41 rfl rfl
set_option maxRecDepth 20000 in
theorem inT : Cond.instantiable "ReversibleParts$Table" 6 ∈ jTW := j_at 49 rfl rfl
set_option maxRecDepth 20000 in
theorem inF : Cond.instantiable "ReversibleParts$Forms" 2 ∈ jTW := j_at 75 rfl rfl
set_option maxRecDepth 20000 in
theorem inS : Cond.instantiable "ReversibleParts$Steps" 7 ∈ jTW := j_at 90 rfl rfl
set_option maxRecDepth 20000 in
theorem inV : Cond.instantiable "ReversibleParts$Moves" 1 ∈ jTW := j_at 97 rfl rfl
set_option maxRecDepth 20000 in
theorem inM : Cond.instantiable "ReversiblePartsModel" 15 ∈ jTW := j_at 361 rfl rfl
set_option maxRecDepth 20000 in
theorem itL : Cond.initialized "ReversiblePartsLaw" ∈ jTW := j_at 30 rfl rfl
set_option maxRecDepth 20000 in
theorem itR : Cond.initialized "ReversibleParts" ∈ jTW := j_at 31 rfl rfl
set_option maxRecDepth 20000 in
theorem itT : Cond.initialized "ReversibleParts$Table" ∈ jTW := j_at 32 rfl rfl
set_option maxRecDepth 20000 in
theorem itF : Cond.initialized "ReversibleParts$Forms" ∈ jTW := j_at 33 rfl rfl
set_option maxRecDepth 20000 in
theorem itS : Cond.initialized "ReversibleParts$Steps" ∈ jTW := j_at 34 rfl rfl
set_option maxRecDepth 20000 in
theorem itV : Cond.initialized "ReversibleParts$Moves" ∈ jTW := j_at 35 rfl rfl
set_option maxRecDepth 20000 in
theorem itM : Cond.initialized "ReversiblePartsModel" ∈ jTW := j_at 36 rfl rfl
set_option maxRecDepth 20000 in
theorem itP : Cond.initialized "ReversibleParts$Products" ∈ jTW := j_at 37 rfl rfl
set_option maxRecDepth 20000 in
theorem k_MathI : Cond.initialized "java/lang/Math" ∈ jTW := j_at 38 rfl rfl
set_option maxRecDepth 20000 in
theorem itJ : Cond.initialized "java/lang/Integer" ∈ jTW := j_at 39 rfl rfl
set_option maxRecDepth 20000 in
theorem ar_int : Cond.arrayClass .int ∈ jTW := j_at 73 rfl rfl
set_option maxRecDepth 20000 in
theorem ar_long : Cond.arrayClass .long ∈ jTW := j_at 88 rfl rfl
set_option maxRecDepth 20000 in
theorem ar_boolean : Cond.arrayClass .boolean ∈ jTW := j_at 417 rfl rfl
set_option maxRecDepth 20000 in
theorem hinF : ∀ w ∈ u_ws RF TF 2, w ∈ jTW := by decide +kernel
set_option maxRecDepth 20000 in
theorem hinV : ∀ w ∈ u_ws RV TV 1, w ∈ jTW := by decide +kernel
set_option maxRecDepth 20000 in
theorem hinS : ∀ w ∈ u_ws RS TS 7, w ∈ jTW := by decide +kernel
set_option maxRecDepth 20000 in
theorem hinT : ∀ w ∈ u_ws RT TT 6, w ∈ jTW := by decide +kernel
set_option maxRecDepth 20000 in
theorem hinR : ∀ w ∈ u_ws RR TR 3, w ∈ jTW := by decide +kernel
set_option maxRecDepth 20000 in
theorem hinM : ∀ w ∈ u_ws RM TM 15, w ∈ jTW := by decide +kernel
set_option maxRecDepth 20000 in
theorem mmR_init : jM yR_init bR_init 0 1 none (.instanceMethod yR_init) := ⟨j_at 43 rfl rfl, itR, j_at 44 rfl rfl, by decide, by decide, by decide +kernel⟩
set_option maxRecDepth 20000 in
theorem k_objI : Cond.instanceMethod Lib.objectInit ∈ jTW := j_at 46 rfl rfl
set_option maxRecDepth 20000 in
theorem k_objC : Cond.code Lib.objectInit ⟨#[0xb1]⟩ 1 none ∈ jTW := j_at 47 rfl rfl
set_option maxRecDepth 20000 in
theorem mmT_init : jM yT_init bT_init 0 2 none (.instanceMethod yT_init) := ⟨j_at 51 rfl rfl, itT, j_at 52 rfl rfl, by decide, by decide, by decide +kernel⟩
set_option maxRecDepth 20000 in
theorem mmF_init : jM yF_init bF_init 0 1 none (.instanceMethod yF_init) := ⟨j_at 77 rfl rfl, itF, j_at 78 rfl rfl, by decide, by decide, by decide +kernel⟩
set_option maxRecDepth 20000 in
theorem mmS_init : jM yS_init bS_init 0 1 none (.instanceMethod yS_init) := ⟨j_at 92 rfl rfl, itS, j_at 93 rfl rfl, by decide, by decide, by decide +kernel⟩
set_option maxRecDepth 20000 in
theorem mmV_init : jM yV_init bV_init 1 2 none (.instanceMethod yV_init) := ⟨j_at 99 rfl rfl, itV, j_at 100 rfl rfl, by decide, by decide, by decide +kernel⟩
set_option maxRecDepth 20000 in
theorem mmR_begin : jM yR_begin bR_begin 1 2 (some .boolean) (.instanceMethod yR_begin) := ⟨j_at 139 rfl rfl, itR, j_at 141 rfl rfl, by decide, by decide, by decide +kernel⟩
set_option maxRecDepth 20000 in
theorem msR_begin : Cond.selects yR_begin.cls yR_begin yR_begin ∈ jTW := j_at 140 rfl rfl
set_option maxRecDepth 20000 in
theorem mmT_startWith : jM yT_startWith bT_startWith 1 3 (some .boolean) (.instanceMethod yT_startWith) := ⟨j_at 143 rfl rfl, itT, j_at 145 rfl rfl, by decide, by decide, by decide +kernel⟩
set_option maxRecDepth 20000 in
theorem msT_startWith : Cond.selects yT_startWith.cls yT_startWith yT_startWith ∈ jTW := j_at 144 rfl rfl
set_option maxRecDepth 20000 in
theorem mmR_put : jM yR_put bR_put 2 3 (some .boolean) (.instanceMethod yR_put) := ⟨j_at 147 rfl rfl, itR, j_at 149 rfl rfl, by decide, by decide, by decide +kernel⟩
set_option maxRecDepth 20000 in
theorem msR_put : Cond.selects yR_put.cls yR_put yR_put ∈ jTW := j_at 148 rfl rfl
set_option maxRecDepth 20000 in
theorem mmT_set : jM yT_set bT_set 2 3 (some .boolean) (.instanceMethod yT_set) := ⟨j_at 151 rfl rfl, itT, j_at 153 rfl rfl, by decide, by decide, by decide +kernel⟩
set_option maxRecDepth 20000 in
theorem msT_set : Cond.selects yT_set.cls yT_set yT_set ∈ jTW := j_at 152 rfl rfl
set_option maxRecDepth 20000 in
theorem mmT_hasValue : jM yT_hasValue bT_hasValue 1 2 (some .boolean) (.instanceMethod yT_hasValue) := ⟨j_at 156 rfl rfl, itT, j_at 157 rfl rfl, by decide, by decide, by decide +kernel⟩
set_option maxRecDepth 20000 in
theorem msT_hasValue : Cond.selects yT_hasValue.cls yT_hasValue yT_hasValue ∈ jTW := j_at 0 rfl rfl
set_option maxRecDepth 20000 in
theorem mmR_apply : jM yR_apply bR_apply 1 2 (some .boolean) (.instanceMethod yR_apply) := ⟨j_at 159 rfl rfl, itR, j_at 161 rfl rfl, by decide, by decide, by decide +kernel⟩
set_option maxRecDepth 20000 in
theorem msR_apply : Cond.selects yR_apply.cls yR_apply yR_apply ∈ jTW := j_at 160 rfl rfl
set_option maxRecDepth 20000 in
theorem mmT_change : jM yT_change bT_change 1 2 (some .boolean) (.instanceMethod yT_change) := ⟨j_at 163 rfl rfl, itT, j_at 165 rfl rfl, by decide, by decide, by decide +kernel⟩
set_option maxRecDepth 20000 in
theorem msT_change : Cond.selects yT_change.cls yT_change yT_change ∈ jTW := j_at 164 rfl rfl
set_option maxRecDepth 20000 in
theorem mmT_hasGate : jM yT_hasGate bT_hasGate 1 4 (some .boolean) (.instanceMethod yT_hasGate) := ⟨j_at 168 rfl rfl, itT, j_at 169 rfl rfl, by decide, by decide, by decide +kernel⟩
set_option maxRecDepth 20000 in
theorem msT_hasGate : Cond.selects yT_hasGate.cls yT_hasGate yT_hasGate ∈ jTW := j_at 1 rfl rfl
set_option maxRecDepth 20000 in
theorem mmT_changeAll : jM yT_changeAll bT_changeAll 2 6 none (.instanceMethod yT_changeAll) := ⟨j_at 172 rfl rfl, itT, j_at 173 rfl rfl, by decide, by decide, by decide +kernel⟩
set_option maxRecDepth 20000 in
theorem msT_changeAll : Cond.selects yT_changeAll.cls yT_changeAll yT_changeAll ∈ jTW := j_at 2 rfl rfl
set_option maxRecDepth 20000 in
theorem mmR_gate : jM yR_gate bR_gate 1 3 (some .int) (.instanceMethod yR_gate) := ⟨j_at 175 rfl rfl, itR, j_at 177 rfl rfl, by decide, by decide, by decide +kernel⟩
set_option maxRecDepth 20000 in
theorem msR_gate : Cond.selects yR_gate.cls yR_gate yR_gate ∈ jTW := j_at 176 rfl rfl
set_option maxRecDepth 20000 in
theorem mmT_isPermutation : jM yT_isPermutation bT_isPermutation 0 3 (some .boolean) (.instanceMethod yT_isPermutation) := ⟨j_at 179 rfl rfl, itT, j_at 181 rfl rfl, by decide, by decide, by decide +kernel⟩
set_option maxRecDepth 20000 in
theorem msT_isPermutation : Cond.selects yT_isPermutation.cls yT_isPermutation yT_isPermutation ∈ jTW := j_at 180 rfl rfl
set_option maxRecDepth 20000 in
theorem mmT_findGates : jM yT_findGates bT_findGates 0 2 (some .int) (.instanceMethod yT_findGates) := ⟨j_at 183 rfl rfl, itT, j_at 185 rfl rfl, by decide, by decide, by decide +kernel⟩
set_option maxRecDepth 20000 in
theorem msT_findGates : Cond.selects yT_findGates.cls yT_findGates yT_findGates ∈ jTW := j_at 184 rfl rfl
set_option maxRecDepth 20000 in
theorem mmT_settleRow : jM yT_settleRow bT_settleRow 1 3 none (.instanceMethod yT_settleRow) := ⟨j_at 188 rfl rfl, itT, j_at 189 rfl rfl, by decide, by decide, by decide +kernel⟩
set_option maxRecDepth 20000 in
theorem msT_settleRow : Cond.selects yT_settleRow.cls yT_settleRow yT_settleRow ∈ jTW := j_at 3 rfl rfl
set_option maxRecDepth 20000 in
theorem mmT_useGate : jM yT_useGate bT_useGate 1 2 none (.instanceMethod yT_useGate) := ⟨j_at 192 rfl rfl, itT, j_at 193 rfl rfl, by decide, by decide, by decide +kernel⟩
set_option maxRecDepth 20000 in
theorem msT_useGate : Cond.selects yT_useGate.cls yT_useGate yT_useGate ∈ jTW := j_at 4 rfl rfl
set_option maxRecDepth 20000 in
theorem mmT_foundFromLast : jM yT_foundFromLast bT_foundFromLast 1 2 (some .int) (.instanceMethod yT_foundFromLast) := ⟨j_at 195 rfl rfl, itT, j_at 197 rfl rfl, by decide, by decide, by decide +kernel⟩
set_option maxRecDepth 20000 in
theorem msT_foundFromLast : Cond.selects yT_foundFromLast.cls yT_foundFromLast yT_foundFromLast ∈ jTW := j_at 196 rfl rfl
set_option maxRecDepth 20000 in
theorem mmR_look : jM yR_look bR_look 1 2 (some .int) (.instanceMethod yR_look) := ⟨j_at 199 rfl rfl, itR, j_at 201 rfl rfl, by decide, by decide, by decide +kernel⟩
set_option maxRecDepth 20000 in
theorem msR_look : Cond.selects yR_look.cls yR_look yR_look ∈ jTW := j_at 200 rfl rfl
set_option maxRecDepth 20000 in
theorem mmT_get : jM yT_get bT_get 1 2 (some .int) (.instanceMethod yT_get) := ⟨j_at 203 rfl rfl, itT, j_at 205 rfl rfl, by decide, by decide, by decide +kernel⟩
set_option maxRecDepth 20000 in
theorem msT_get : Cond.selects yT_get.cls yT_get yT_get ∈ jTW := j_at 204 rfl rfl
set_option maxRecDepth 20000 in
theorem mmR_form : jM yR_form bR_form 2 6 (some .int) (.instanceMethod yR_form) := ⟨j_at 207 rfl rfl, itR, j_at 209 rfl rfl, by decide, by decide, by decide +kernel⟩
set_option maxRecDepth 20000 in
theorem msR_form : Cond.selects yR_form.cls yR_form yR_form ∈ jTW := j_at 208 rfl rfl
set_option maxRecDepth 20000 in
theorem mmT_bitCount : jM yT_bitCount bT_bitCount 0 1 (some .int) (.instanceMethod yT_bitCount) := ⟨j_at 211 rfl rfl, itT, j_at 213 rfl rfl, by decide, by decide, by decide +kernel⟩
set_option maxRecDepth 20000 in
theorem msT_bitCount : Cond.selects yT_bitCount.cls yT_bitCount yT_bitCount ∈ jTW := j_at 212 rfl rfl
set_option maxRecDepth 20000 in
theorem mmF_least : jM yF_least bF_least 2 4 (some .long) (.instanceMethod yF_least) := ⟨j_at 215 rfl rfl, itF, j_at 217 rfl rfl, by decide, by decide, by decide +kernel⟩
set_option maxRecDepth 20000 in
theorem msF_least : Cond.selects yF_least.cls yF_least yF_least ∈ jTW := j_at 216 rfl rfl
set_option maxRecDepth 20000 in
theorem mmF_fillLevel : jM yF_fillLevel bF_fillLevel 1 4 none (.instanceMethod yF_fillLevel) := ⟨j_at 220 rfl rfl, itF, j_at 221 rfl rfl, by decide, by decide, by decide +kernel⟩
set_option maxRecDepth 20000 in
theorem msF_fillLevel : Cond.selects yF_fillLevel.cls yF_fillLevel yF_fillLevel ∈ jTW := j_at 5 rfl rfl
set_option maxRecDepth 20000 in
theorem mmF_leastFrom : jM yF_leastFrom bF_leastFrom 2 20 (some .long) (.instanceMethod yF_leastFrom) := ⟨j_at 226 rfl rfl, itF, j_at 227 rfl rfl, by decide, by decide, by decide +kernel⟩
set_option maxRecDepth 20000 in
theorem msF_leastFrom : Cond.selects yF_leastFrom.cls yF_leastFrom yF_leastFrom ∈ jTW := j_at 6 rfl rfl
set_option maxRecDepth 20000 in
theorem mmP_count : jM yP_count bP_count 1 3 (some .int) (.static yP_count) := ⟨j_at 229 rfl rfl, itP, j_at 230 rfl rfl, by decide, by decide, by decide +kernel⟩
set_option maxRecDepth 20000 in
theorem mmF_sizeOf : jM yF_sizeOf bF_sizeOf 1 2 (some .int) (.static yF_sizeOf) := ⟨j_at 233 rfl rfl, itF, j_at 234 rfl rfl, by decide, by decide, by decide +kernel⟩
set_option maxRecDepth 20000 in
theorem mmF_join : jM yF_join bF_join 3 11 (some .long) (.static yF_join) := ⟨j_at 236 rfl rfl, itF, j_at 237 rfl rfl, by decide, by decide, by decide +kernel⟩
set_option maxRecDepth 20000 in
theorem k_mminLS : Cond.static Lib.MathLoose.min_long.x ∈ jTW := j_at 241 rfl rfl
set_option maxRecDepth 20000 in
theorem k_mminLC : Cond.code Lib.MathLoose.min_long.x Lib.MathLoose.min_long.code 4 (some .long) ∈ jTW := j_at 242 rfl rfl
set_option maxRecDepth 20000 in
theorem mmF_numberAt : jM yF_numberAt bF_numberAt 2 4 (some .int) (.static yF_numberAt) := ⟨j_at 245 rfl rfl, itF, j_at 246 rfl rfl, by decide, by decide, by decide +kernel⟩
set_option maxRecDepth 20000 in
theorem mmR_product : jM yR_product bR_product 1 3 (some .int) (.instanceMethod yR_product) := ⟨j_at 248 rfl rfl, itR, j_at 250 rfl rfl, by decide, by decide, by decide +kernel⟩
set_option maxRecDepth 20000 in
theorem msR_product : Cond.selects yR_product.cls yR_product yR_product ∈ jTW := j_at 249 rfl rfl
set_option maxRecDepth 20000 in
theorem mmP_function : jM yP_function bP_function 2 4 (some .int) (.static yP_function) := ⟨j_at 253 rfl rfl, itP, j_at 254 rfl rfl, by decide, by decide, by decide +kernel⟩
set_option maxRecDepth 20000 in
theorem mmP_holds : jM yP_holds bP_holds 3 7 (some .boolean) (.static yP_holds) := ⟨j_at 256 rfl rfl, itP, j_at 257 rfl rfl, by decide, by decide, by decide +kernel⟩
set_option maxRecDepth 20000 in
theorem mmR_program : jM yR_program bR_program 1 2 (some .boolean) (.instanceMethod yR_program) := ⟨j_at 259 rfl rfl, itR, j_at 261 rfl rfl, by decide, by decide, by decide +kernel⟩
set_option maxRecDepth 20000 in
theorem msR_program : Cond.selects yR_program.cls yR_program yR_program ∈ jTW := j_at 260 rfl rfl
set_option maxRecDepth 20000 in
theorem mmS_startWith : jM yS_startWith bS_startWith 1 3 (some .boolean) (.instanceMethod yS_startWith) := ⟨j_at 263 rfl rfl, itS, j_at 265 rfl rfl, by decide, by decide, by decide +kernel⟩
set_option maxRecDepth 20000 in
theorem msS_startWith : Cond.selects yS_startWith.cls yS_startWith yS_startWith ∈ jTW := j_at 264 rfl rfl
set_option maxRecDepth 20000 in
theorem mmS_forget : jM yS_forget bS_forget 0 2 none (.instanceMethod yS_forget) := ⟨j_at 268 rfl rfl, itS, j_at 269 rfl rfl, by decide, by decide, by decide +kernel⟩
set_option maxRecDepth 20000 in
theorem msS_forget : Cond.selects yS_forget.cls yS_forget yS_forget ∈ jTW := j_at 7 rfl rfl
set_option maxRecDepth 20000 in
theorem mmR_need : jM yR_need bR_need 2 3 (some .boolean) (.instanceMethod yR_need) := ⟨j_at 271 rfl rfl, itR, j_at 273 rfl rfl, by decide, by decide, by decide +kernel⟩
set_option maxRecDepth 20000 in
theorem msR_need : Cond.selects yR_need.cls yR_need yR_need ∈ jTW := j_at 272 rfl rfl
set_option maxRecDepth 20000 in
theorem mmS_setNeeds : jM yS_setNeeds bS_setNeeds 2 3 (some .boolean) (.instanceMethod yS_setNeeds) := ⟨j_at 275 rfl rfl, itS, j_at 277 rfl rfl, by decide, by decide, by decide +kernel⟩
set_option maxRecDepth 20000 in
theorem msS_setNeeds : Cond.selects yS_setNeeds.cls yS_setNeeds yS_setNeeds ∈ jTW := j_at 276 rfl rfl
set_option maxRecDepth 20000 in
theorem mmR_move : jM yR_move bR_move 2 4 (some .int) (.instanceMethod yR_move) := ⟨j_at 279 rfl rfl, itR, j_at 281 rfl rfl, by decide, by decide, by decide +kernel⟩
set_option maxRecDepth 20000 in
theorem msR_move : Cond.selects yR_move.cls yR_move yR_move ∈ jTW := j_at 280 rfl rfl
set_option maxRecDepth 20000 in
theorem mmS_movesWithin : jM yS_movesWithin bS_movesWithin 1 4 (some (.object "ReversibleParts$Moves")) (.instanceMethod yS_movesWithin) := ⟨j_at 283 rfl rfl, itS, j_at 285 rfl rfl, by decide, by decide, by decide +kernel⟩
set_option maxRecDepth 20000 in
theorem msS_movesWithin : Cond.selects yS_movesWithin.cls yS_movesWithin yS_movesWithin ∈ jTW := j_at 284 rfl rfl
set_option maxRecDepth 20000 in
theorem k_mminS : Cond.static Lib.Math.min.name ∈ jTW := j_at 287 rfl rfl
set_option maxRecDepth 20000 in
theorem k_mminC : Cond.code Lib.Math.min.name Lib.Math.min.code 2 (some .int) ∈ jTW := j_at 288 rfl rfl
set_option maxRecDepth 20000 in
theorem k_mmaxS : Cond.static Lib.Math.max.name ∈ jTW := j_at 290 rfl rfl
set_option maxRecDepth 20000 in
theorem k_mmaxC : Cond.code Lib.Math.max.name Lib.Math.max.code 2 (some .int) ∈ jTW := j_at 291 rfl rfl
set_option maxRecDepth 20000 in
theorem mmS_search : jM yS_search bS_search 1 7 (some (.object "ReversibleParts$Moves")) (.instanceMethod yS_search) := ⟨j_at 294 rfl rfl, itS, j_at 295 rfl rfl, by decide, by decide, by decide +kernel⟩
set_option maxRecDepth 20000 in
theorem msS_search : Cond.selects yS_search.cls yS_search yS_search ∈ jTW := j_at 8 rfl rfl
set_option maxRecDepth 20000 in
theorem mmS_makeRoom : jM yS_makeRoom bS_makeRoom 0 2 none (.instanceMethod yS_makeRoom) := ⟨j_at 298 rfl rfl, itS, j_at 299 rfl rfl, by decide, by decide, by decide +kernel⟩
set_option maxRecDepth 20000 in
theorem msS_makeRoom : Cond.selects yS_makeRoom.cls yS_makeRoom yS_makeRoom ∈ jTW := j_at 9 rfl rfl
set_option maxRecDepth 20000 in
theorem mmS_wantedSteps : jM yS_wantedSteps bS_wantedSteps 0 3 (some .int) (.instanceMethod yS_wantedSteps) := ⟨j_at 302 rfl rfl, itS, j_at 303 rfl rfl, by decide, by decide, by decide +kernel⟩
set_option maxRecDepth 20000 in
theorem msS_wantedSteps : Cond.selects yS_wantedSteps.cls yS_wantedSteps yS_wantedSteps ∈ jTW := j_at 10 rfl rfl
set_option maxRecDepth 20000 in
theorem mmS_spreadFromGoal : jM yS_spreadFromGoal bS_spreadFromGoal 2 4 none (.instanceMethod yS_spreadFromGoal) := ⟨j_at 306 rfl rfl, itS, j_at 307 rfl rfl, by decide, by decide, by decide +kernel⟩
set_option maxRecDepth 20000 in
theorem msS_spreadFromGoal : Cond.selects yS_spreadFromGoal.cls yS_spreadFromGoal yS_spreadFromGoal ∈ jTW := j_at 11 rfl rfl
set_option maxRecDepth 20000 in
theorem mmS_enter : jM yS_enter bS_enter 2 3 none (.instanceMethod yS_enter) := ⟨j_at 310 rfl rfl, itS, j_at 311 rfl rfl, by decide, by decide, by decide +kernel⟩
set_option maxRecDepth 20000 in
theorem msS_enter : Cond.selects yS_enter.cls yS_enter yS_enter ∈ jTW := j_at 12 rfl rfl
set_option maxRecDepth 20000 in
theorem mmS_spreadFrom : jM yS_spreadFrom bS_spreadFrom 3 9 none (.instanceMethod yS_spreadFrom) := ⟨j_at 314 rfl rfl, itS, j_at 315 rfl rfl, by decide, by decide, by decide +kernel⟩
set_option maxRecDepth 20000 in
theorem msS_spreadFrom : Cond.selects yS_spreadFrom.cls yS_spreadFrom yS_spreadFrom ∈ jTW := j_at 13 rfl rfl
set_option maxRecDepth 20000 in
theorem mmJ_bitCount : jM yJ_bitCount bJ_bitCount 1 1 (some .int) (.static yJ_bitCount) := ⟨j_at 317 rfl rfl, itJ, j_at 318 rfl rfl, by decide, by decide, by decide +kernel⟩
set_option maxRecDepth 20000 in
theorem mmV_length : jM yV_length bV_length 0 1 (some .int) (.instanceMethod yV_length) := ⟨j_at 323 rfl rfl, itV, j_at 325 rfl rfl, by decide, by decide, by decide +kernel⟩
set_option maxRecDepth 20000 in
theorem msV_length : Cond.selects yV_length.cls yV_length yV_length ∈ jTW := j_at 324 rfl rfl
set_option maxRecDepth 20000 in
theorem mmS_firstStepNearer : jM yS_firstStepNearer bS_firstStepNearer 1 5 (some .int) (.instanceMethod yS_firstStepNearer) := ⟨j_at 328 rfl rfl, itS, j_at 329 rfl rfl, by decide, by decide, by decide +kernel⟩
set_option maxRecDepth 20000 in
theorem msS_firstStepNearer : Cond.selects yS_firstStepNearer.cls yS_firstStepNearer yS_firstStepNearer ∈ jTW := j_at 14 rfl rfl
set_option maxRecDepth 20000 in
theorem mmV_set : jM yV_set bV_set 2 3 none (.instanceMethod yV_set) := ⟨j_at 331 rfl rfl, itV, j_at 333 rfl rfl, by decide, by decide, by decide +kernel⟩
set_option maxRecDepth 20000 in
theorem msV_set : Cond.selects yV_set.cls yV_set yV_set ∈ jTW := j_at 332 rfl rfl
set_option maxRecDepth 20000 in
theorem mmV_at : jM yV_at bV_at 1 2 (some .int) (.instanceMethod yV_at) := ⟨j_at 336 rfl rfl, itV, j_at 338 rfl rfl, by decide, by decide, by decide +kernel⟩
set_option maxRecDepth 20000 in
theorem msV_at : Cond.selects yV_at.cls yV_at yV_at ∈ jTW := j_at 337 rfl rfl
set_option maxRecDepth 20000 in
theorem mmR_marks : jM yR_marks bR_marks 0 1 (some .int) (.instanceMethod yR_marks) := ⟨j_at 340 rfl rfl, itR, j_at 342 rfl rfl, by decide, by decide, by decide +kernel⟩
set_option maxRecDepth 20000 in
theorem msR_marks : Cond.selects yR_marks.cls yR_marks yR_marks ∈ jTW := j_at 341 rfl rfl
set_option maxRecDepth 20000 in
theorem mmS_fewestMarks : jM yS_fewestMarks bS_fewestMarks 0 2 (some .int) (.instanceMethod yS_fewestMarks) := ⟨j_at 344 rfl rfl, itS, j_at 346 rfl rfl, by decide, by decide, by decide +kernel⟩
set_option maxRecDepth 20000 in
theorem msS_fewestMarks : Cond.selects yS_fewestMarks.cls yS_fewestMarks yS_fewestMarks ∈ jTW := j_at 345 rfl rfl
set_option maxRecDepth 20000 in
theorem mmS_fewestThinkable : jM yS_fewestThinkable bS_fewestThinkable 0 4 (some .int) (.instanceMethod yS_fewestThinkable) := ⟨j_at 349 rfl rfl, itS, j_at 350 rfl rfl, by decide, by decide, by decide +kernel⟩
set_option maxRecDepth 20000 in
theorem msS_fewestThinkable : Cond.selects yS_fewestThinkable.cls yS_fewestThinkable yS_fewestThinkable ∈ jTW := j_at 15 rfl rfl
set_option maxRecDepth 20000 in
theorem mmR_total : jM yR_total bR_total 1 2 (some .int) (.instanceMethod yR_total) := ⟨j_at 353 rfl rfl, itR, j_at 355 rfl rfl, by decide, by decide, by decide +kernel⟩
set_option maxRecDepth 20000 in
theorem msR_total : Cond.selects yR_total.cls yR_total yR_total ∈ jTW := j_at 354 rfl rfl
set_option maxRecDepth 20000 in
theorem mmS_count : jM yS_count bS_count 0 1 (some .int) (.instanceMethod yS_count) := ⟨j_at 357 rfl rfl, itS, j_at 359 rfl rfl, by decide, by decide, by decide +kernel⟩
set_option maxRecDepth 20000 in
theorem msS_count : Cond.selects yS_count.cls yS_count yS_count ∈ jTW := j_at 358 rfl rfl
set_option maxRecDepth 20000 in
theorem mmM_init : jM yM_init bM_init 0 1 none (.instanceMethod yM_init) := ⟨j_at 363 rfl rfl, itM, j_at 364 rfl rfl, by decide, by decide, by decide +kernel⟩
set_option maxRecDepth 20000 in
theorem mmM_start : jM yM_start bM_start 1 3 none (.instanceMethod yM_start) := ⟨j_at 369 rfl rfl, itM, j_at 370 rfl rfl, by decide, by decide, by decide +kernel⟩
set_option maxRecDepth 20000 in
theorem msM_start : Cond.selects yM_start.cls yM_start yM_start ∈ jTW := j_at 16 rfl rfl
set_option maxRecDepth 20000 in
theorem mmM_begin : jM yM_begin bM_begin 1 2 (some .boolean) (.instanceMethod yM_begin) := ⟨j_at 419 rfl rfl, itM, j_at 421 rfl rfl, by decide, by decide, by decide +kernel⟩
set_option maxRecDepth 20000 in
theorem msM_begin : Cond.selects yM_begin.cls yM_begin yM_begin ∈ jTW := j_at 420 rfl rfl
set_option maxRecDepth 20000 in
theorem mmM_put : jM yM_put bM_put 2 3 (some .boolean) (.instanceMethod yM_put) := ⟨j_at 423 rfl rfl, itM, j_at 425 rfl rfl, by decide, by decide, by decide +kernel⟩
set_option maxRecDepth 20000 in
theorem msM_put : Cond.selects yM_put.cls yM_put yM_put ∈ jTW := j_at 424 rfl rfl
set_option maxRecDepth 20000 in
theorem mmM_isValue : jM yM_isValue bM_isValue 1 2 (some .boolean) (.instanceMethod yM_isValue) := ⟨j_at 428 rfl rfl, itM, j_at 429 rfl rfl, by decide, by decide, by decide +kernel⟩
set_option maxRecDepth 20000 in
theorem msM_isValue : Cond.selects yM_isValue.cls yM_isValue yM_isValue ∈ jTW := j_at 17 rfl rfl
set_option maxRecDepth 20000 in
theorem mmM_values : jM yM_values bM_values 0 1 (some .int) (.instanceMethod yM_values) := ⟨j_at 432 rfl rfl, itM, j_at 433 rfl rfl, by decide, by decide, by decide +kernel⟩
set_option maxRecDepth 20000 in
theorem msM_values : Cond.selects yM_values.cls yM_values yM_values ∈ jTW := j_at 18 rfl rfl
set_option maxRecDepth 20000 in
theorem mmM_apply : jM yM_apply bM_apply 1 5 (some .boolean) (.instanceMethod yM_apply) := ⟨j_at 435 rfl rfl, itM, j_at 437 rfl rfl, by decide, by decide, by decide +kernel⟩
set_option maxRecDepth 20000 in
theorem msM_apply : Cond.selects yM_apply.cls yM_apply yM_apply ∈ jTW := j_at 436 rfl rfl
set_option maxRecDepth 20000 in
theorem mmM_changed : jM yM_changed bM_changed 3 3 (some .int) (.static yM_changed) := ⟨j_at 439 rfl rfl, itM, j_at 440 rfl rfl, by decide, by decide, by decide +kernel⟩
set_option maxRecDepth 20000 in
theorem mmM_gate : jM yM_gate bM_gate 1 2 (some .int) (.instanceMethod yM_gate) := ⟨j_at 442 rfl rfl, itM, j_at 444 rfl rfl, by decide, by decide, by decide +kernel⟩
set_option maxRecDepth 20000 in
theorem msM_gate : Cond.selects yM_gate.cls yM_gate yM_gate ∈ jTW := j_at 443 rfl rfl
set_option maxRecDepth 20000 in
theorem mmM_isPermutation : jM yM_isPermutation bM_isPermutation 0 3 (some .boolean) (.instanceMethod yM_isPermutation) := ⟨j_at 447 rfl rfl, itM, j_at 448 rfl rfl, by decide, by decide, by decide +kernel⟩
set_option maxRecDepth 20000 in
theorem msM_isPermutation : Cond.selects yM_isPermutation.cls yM_isPermutation yM_isPermutation ∈ jTW := j_at 19 rfl rfl
set_option maxRecDepth 20000 in
theorem mmM_findGates : jM yM_findGates bM_findGates 0 3 none (.instanceMethod yM_findGates) := ⟨j_at 451 rfl rfl, itM, j_at 452 rfl rfl, by decide, by decide, by decide +kernel⟩
set_option maxRecDepth 20000 in
theorem msM_findGates : Cond.selects yM_findGates.cls yM_findGates yM_findGates ∈ jTW := j_at 20 rfl rfl
set_option maxRecDepth 20000 in
theorem mmM_doGate : jM yM_doGate bM_doGate 2 4 none (.instanceMethod yM_doGate) := ⟨j_at 455 rfl rfl, itM, j_at 456 rfl rfl, by decide, by decide, by decide +kernel⟩
set_option maxRecDepth 20000 in
theorem msM_doGate : Cond.selects yM_doGate.cls yM_doGate yM_doGate ∈ jTW := j_at 21 rfl rfl
set_option maxRecDepth 20000 in
theorem mmM_look : jM yM_look bM_look 1 2 (some .int) (.instanceMethod yM_look) := ⟨j_at 458 rfl rfl, itM, j_at 460 rfl rfl, by decide, by decide, by decide +kernel⟩
set_option maxRecDepth 20000 in
theorem msM_look : Cond.selects yM_look.cls yM_look yM_look ∈ jTW := j_at 459 rfl rfl
set_option maxRecDepth 20000 in
theorem mmM_form : jM yM_form bM_form 2 6 (some .int) (.instanceMethod yM_form) := ⟨j_at 462 rfl rfl, itM, j_at 464 rfl rfl, by decide, by decide, by decide +kernel⟩
set_option maxRecDepth 20000 in
theorem msM_form : Cond.selects yM_form.cls yM_form yM_form ∈ jTW := j_at 463 rfl rfl
set_option maxRecDepth 20000 in
theorem mmM_functions : jM yM_functions bM_functions 0 1 (some .int) (.instanceMethod yM_functions) := ⟨j_at 467 rfl rfl, itM, j_at 468 rfl rfl, by decide, by decide, by decide +kernel⟩
set_option maxRecDepth 20000 in
theorem msM_functions : Cond.selects yM_functions.cls yM_functions yM_functions ∈ jTW := j_at 22 rfl rfl
set_option maxRecDepth 20000 in
theorem mmM_findCosts : jM yM_findCosts bM_findCosts 0 6 none (.instanceMethod yM_findCosts) := ⟨j_at 471 rfl rfl, itM, j_at 472 rfl rfl, by decide, by decide, by decide +kernel⟩
set_option maxRecDepth 20000 in
theorem msM_findCosts : Cond.selects yM_findCosts.cls yM_findCosts yM_findCosts ∈ jTW := j_at 23 rfl rfl
set_option maxRecDepth 20000 in
theorem mmM_products : jM yM_products bM_products 0 3 (some .int) (.instanceMethod yM_products) := ⟨j_at 475 rfl rfl, itM, j_at 476 rfl rfl, by decide, by decide, by decide +kernel⟩
set_option maxRecDepth 20000 in
theorem msM_products : Cond.selects yM_products.cls yM_products yM_products ∈ jTW := j_at 24 rfl rfl
set_option maxRecDepth 20000 in
theorem mmM_productAt : jM yM_productAt bM_productAt 1 2 (some .int) (.instanceMethod yM_productAt) := ⟨j_at 479 rfl rfl, itM, j_at 480 rfl rfl, by decide, by decide, by decide +kernel⟩
set_option maxRecDepth 20000 in
theorem msM_productAt : Cond.selects yM_productAt.cls yM_productAt yM_productAt ∈ jTW := j_at 25 rfl rfl
set_option maxRecDepth 20000 in
theorem mmM_functionFor : jM yM_functionFor bM_functionFor 1 8 (some .int) (.instanceMethod yM_functionFor) := ⟨j_at 483 rfl rfl, itM, j_at 484 rfl rfl, by decide, by decide, by decide +kernel⟩
set_option maxRecDepth 20000 in
theorem msM_functionFor : Cond.selects yM_functionFor.cls yM_functionFor yM_functionFor ∈ jTW := j_at 26 rfl rfl
set_option maxRecDepth 20000 in
theorem mmM_costAt : jM yM_costAt bM_costAt 1 2 (some .int) (.instanceMethod yM_costAt) := ⟨j_at 487 rfl rfl, itM, j_at 488 rfl rfl, by decide, by decide, by decide +kernel⟩
set_option maxRecDepth 20000 in
theorem msM_costAt : Cond.selects yM_costAt.cls yM_costAt yM_costAt ∈ jTW := j_at 27 rfl rfl
set_option maxRecDepth 20000 in
theorem mmM_product : jM yM_product bM_product 1 2 (some .int) (.instanceMethod yM_product) := ⟨j_at 490 rfl rfl, itM, j_at 492 rfl rfl, by decide, by decide, by decide +kernel⟩
set_option maxRecDepth 20000 in
theorem msM_product : Cond.selects yM_product.cls yM_product yM_product ∈ jTW := j_at 491 rfl rfl
set_option maxRecDepth 20000 in
theorem mmM_program : jM yM_program bM_program 1 3 (some .boolean) (.instanceMethod yM_program) := ⟨j_at 494 rfl rfl, itM, j_at 496 rfl rfl, by decide, by decide, by decide +kernel⟩
set_option maxRecDepth 20000 in
theorem msM_program : Cond.selects yM_program.cls yM_program yM_program ∈ jTW := j_at 495 rfl rfl
set_option maxRecDepth 20000 in
theorem mmM_need : jM yM_need bM_need 2 3 (some .boolean) (.instanceMethod yM_need) := ⟨j_at 498 rfl rfl, itM, j_at 500 rfl rfl, by decide, by decide, by decide +kernel⟩
set_option maxRecDepth 20000 in
theorem msM_need : Cond.selects yM_need.cls yM_need yM_need ∈ jTW := j_at 499 rfl rfl
set_option maxRecDepth 20000 in
theorem mmM_move : jM yM_move bM_move 2 7 (some .int) (.instanceMethod yM_move) := ⟨j_at 502 rfl rfl, itM, j_at 504 rfl rfl, by decide, by decide, by decide +kernel⟩
set_option maxRecDepth 20000 in
theorem msM_move : Cond.selects yM_move.cls yM_move yM_move ∈ jTW := j_at 503 rfl rfl
set_option maxRecDepth 20000 in
theorem mmM_findEnd : jM yM_findEnd bM_findEnd 1 7 (some .int) (.instanceMethod yM_findEnd) := ⟨j_at 507 rfl rfl, itM, j_at 508 rfl rfl, by decide, by decide, by decide +kernel⟩
set_option maxRecDepth 20000 in
theorem msM_findEnd : Cond.selects yM_findEnd.cls yM_findEnd yM_findEnd ∈ jTW := j_at 28 rfl rfl
set_option maxRecDepth 20000 in
theorem mmM_count : jM yM_count bM_count 1 3 (some .int) (.static yM_count) := ⟨j_at 510 rfl rfl, itM, j_at 511 rfl rfl, by decide, by decide, by decide +kernel⟩
set_option maxRecDepth 20000 in
theorem mmM_lengthTo : jM yM_lengthTo bM_lengthTo 1 4 (some .int) (.instanceMethod yM_lengthTo) := ⟨j_at 514 rfl rfl, itM, j_at 515 rfl rfl, by decide, by decide, by decide +kernel⟩
set_option maxRecDepth 20000 in
theorem msM_lengthTo : Cond.selects yM_lengthTo.cls yM_lengthTo yM_lengthTo ∈ jTW := j_at 29 rfl rfl
set_option maxRecDepth 20000 in
theorem mmM_marks : jM yM_marks bM_marks 0 2 (some .int) (.instanceMethod yM_marks) := ⟨j_at 517 rfl rfl, itM, j_at 519 rfl rfl, by decide, by decide, by decide +kernel⟩
set_option maxRecDepth 20000 in
theorem msM_marks : Cond.selects yM_marks.cls yM_marks yM_marks ∈ jTW := j_at 518 rfl rfl
set_option maxRecDepth 20000 in
theorem mmM_total : jM yM_total bM_total 1 2 (some .int) (.instanceMethod yM_total) := ⟨j_at 521 rfl rfl, itM, j_at 523 rfl rfl, by decide, by decide, by decide +kernel⟩
set_option maxRecDepth 20000 in
theorem msM_total : Cond.selects yM_total.cls yM_total yM_total ∈ jTW := j_at 522 rfl rfl
