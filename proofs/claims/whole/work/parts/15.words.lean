theorem pm_ii_L : Cond.initialized RL ∈ pm_ws := pm_ws_of (List.mem_append_right _ (List.mem_of_getElem? (i := 0) (by decide +kernel))) rfl
theorem pm_ii_X6 : Cond.initialized RX6 ∈ pm_ws := pm_ws_of (List.mem_append_right _ (List.mem_of_getElem? (i := 1) (by decide +kernel))) rfl
theorem pm_ii_X5 : Cond.initialized RX5 ∈ pm_ws := pm_ws_of (List.mem_append_right _ (List.mem_of_getElem? (i := 2) (by decide +kernel))) rfl
theorem pm_ii_X2 : Cond.initialized RX2 ∈ pm_ws := pm_ws_of (List.mem_append_right _ (List.mem_of_getElem? (i := 3) (by decide +kernel))) rfl
theorem pm_ii_X3 : Cond.initialized RX3 ∈ pm_ws := pm_ws_of (List.mem_append_right _ (List.mem_of_getElem? (i := 4) (by decide +kernel))) rfl
theorem pm_ii_X7 : Cond.initialized RX7 ∈ pm_ws := pm_ws_of (List.mem_append_right _ (List.mem_of_getElem? (i := 5) (by decide +kernel))) rfl
theorem pm_ii_X1 : Cond.initialized RX1 ∈ pm_ws := pm_ws_of (List.mem_append_right _ (List.mem_of_getElem? (i := 11) (by decide +kernel))) rfl
theorem pm_ii_X0 : Cond.initialized RX0 ∈ pm_ws := pm_ws_of (List.mem_append_right _ (List.mem_of_getElem? (i := 12) (by decide +kernel))) rfl
theorem pm_ii_X4 : Cond.initialized RX4 ∈ pm_ws := pm_ws_of (List.mem_append_right _ (List.mem_of_getElem? (i := 13) (by decide +kernel))) rfl
theorem pm_ii_J10 : Cond.initialized RJ10 ∈ pm_ws := pm_ws_of (List.mem_append_right _ (List.mem_of_getElem? (i := 14) (by decide +kernel))) rfl
theorem pm_ii_J9 : Cond.initialized RJ9 ∈ pm_ws := pm_ws_of (List.mem_append_right _ (List.mem_of_getElem? (i := 15) (by decide +kernel))) rfl
theorem pm_ii_J13 : Cond.initialized RJ13 ∈ pm_ws := pm_ws_of (List.mem_append_right _ (List.mem_of_getElem? (i := 16) (by decide +kernel))) rfl
theorem pm_c_L_8 : Cond.classLink RL 8 RX6 ∈ pm_ws := pm_ws_of (List.mem_append_right _ (List.mem_of_getElem? (i := 17) (by decide +kernel))) rfl
theorem pm_in_X6 : Cond.instantiable RX6 16 ∈ pm_ws := pm_ws_of (List.mem_append_right _ (List.mem_of_getElem? (i := 18) (by decide +kernel))) rfl
theorem pm_m_L_45 : Cond.methodLink RL 45 yX6_init ∈ pm_ws := pm_ws_of (List.mem_append_right _ (List.mem_of_getElem? (i := 19) (by decide +kernel))) rfl
theorem pm_m_X6_1 : Cond.methodLink RX6 1 objectInit ∈ pm_ws := pm_ws_of (List.mem_append_right _ (List.mem_of_getElem? (i := 22) (by decide +kernel))) rfl
theorem pm_c_X6_13 : Cond.classLink RX6 13 RX1 ∈ pm_ws := pm_ws_of (List.mem_append_right _ (List.mem_of_getElem? (i := 25) (by decide +kernel))) rfl
theorem pm_c_X6_25 : Cond.classLink RX6 25 RX5 ∈ pm_ws := pm_ws_of (List.mem_append_right _ (List.mem_of_getElem? (i := 27) (by decide +kernel))) rfl
theorem pm_in_X5 : Cond.instantiable RX5 5 ∈ pm_ws := pm_ws_of (List.mem_append_right _ (List.mem_of_getElem? (i := 28) (by decide +kernel))) rfl
theorem pm_m_X6_27 : Cond.methodLinkNest RX6 27 yX5_init "ProcessMill" ∈ lw_tbl := List.mem_append_right _ (List.mem_of_getElem? (i := 29) (by decide +kernel))
theorem pm_m_X5_1 : Cond.methodLink RX5 1 objectInit ∈ pm_ws := pm_ws_of (List.mem_append_right _ (List.mem_of_getElem? (i := 32) (by decide +kernel))) rfl
theorem pm_f_X5_9 : pm_lk RX5 9 RX5 "numbers" "[I" := Or.inl (pm_ws_of (List.mem_append_right _ (List.mem_of_getElem? (i := 33) (by decide +kernel))) rfl)
theorem pm_f_X6_432 : pm_lk RX6 432 RX5 "numbers" "[I" := Or.inr ⟨"ProcessMill", List.mem_append_right _ (List.mem_of_getElem? (i := 34) (by decide +kernel))⟩
theorem pm_f_X5_13 : pm_lk RX5 13 RX5 "watchers" "[I" := Or.inl (pm_ws_of (List.mem_append_right _ (List.mem_of_getElem? (i := 35) (by decide +kernel))) rfl)
theorem pm_f_X6_429 : pm_lk RX6 429 RX5 "watchers" "[I" := Or.inr ⟨"ProcessMill", List.mem_append_right _ (List.mem_of_getElem? (i := 36) (by decide +kernel))⟩
theorem pm_f_X5_16 : pm_lk RX5 16 RX5 "watched" "[I" := Or.inl (pm_ws_of (List.mem_append_right _ (List.mem_of_getElem? (i := 37) (by decide +kernel))) rfl)
theorem pm_f_X6_426 : pm_lk RX6 426 RX5 "watched" "[I" := Or.inr ⟨"ProcessMill", List.mem_append_right _ (List.mem_of_getElem? (i := 38) (by decide +kernel))⟩
theorem pm_f_X5_19 : pm_lk RX5 19 RX5 "count" "I" := Or.inl (pm_ws_of (List.mem_append_right _ (List.mem_of_getElem? (i := 39) (by decide +kernel))) rfl)
theorem pm_f_X6_423 : pm_lk RX6 423 RX5 "count" "I" := Or.inr ⟨"ProcessMill", List.mem_append_right _ (List.mem_of_getElem? (i := 40) (by decide +kernel))⟩
theorem pm_f_X5_23 : pm_lk RX5 23 RX5 "made" "I" := Or.inl (pm_ws_of (List.mem_append_right _ (List.mem_of_getElem? (i := 41) (by decide +kernel))) rfl)
theorem pm_f_X6_158 : pm_lk RX6 158 RX5 "made" "I" := Or.inr ⟨"ProcessMill", List.mem_append_right _ (List.mem_of_getElem? (i := 42) (by decide +kernel))⟩
theorem pm_ac_int : Cond.arrayClass .int ∈ pm_ws := pm_ws_of (List.mem_append_right _ (List.mem_of_getElem? (i := 54) (by decide +kernel))) rfl
theorem pm_c_X6_32 : Cond.classLink RX6 32 RX2 ∈ pm_ws := pm_ws_of (List.mem_append_right _ (List.mem_of_getElem? (i := 55) (by decide +kernel))) rfl
theorem pm_in_X2 : Cond.instantiable RX2 2 ∈ pm_ws := pm_ws_of (List.mem_append_right _ (List.mem_of_getElem? (i := 56) (by decide +kernel))) rfl
theorem pm_m_X6_34 : Cond.methodLinkNest RX6 34 yX2_init "ProcessMill" ∈ lw_tbl := List.mem_append_right _ (List.mem_of_getElem? (i := 57) (by decide +kernel))
theorem pm_m_X2_3 : Cond.methodLink RX2 3 objectInit ∈ pm_ws := pm_ws_of (List.mem_append_right _ (List.mem_of_getElem? (i := 60) (by decide +kernel))) rfl
theorem pm_f_X2_11 : pm_lk RX2 11 RX2 "kept" "[I" := Or.inl (pm_ws_of (List.mem_append_right _ (List.mem_of_getElem? (i := 61) (by decide +kernel))) rfl)
theorem pm_f_X2_15 : pm_lk RX2 15 RX2 "printed" "I" := Or.inl (pm_ws_of (List.mem_append_right _ (List.mem_of_getElem? (i := 62) (by decide +kernel))) rfl)
theorem pm_f_X6_155 : pm_lk RX6 155 RX2 "printed" "I" := Or.inr ⟨"ProcessMill", List.mem_append_right _ (List.mem_of_getElem? (i := 63) (by decide +kernel))⟩
theorem pm_c_X6_39 : Cond.classLink RX6 39 RX3 ∈ pm_ws := pm_ws_of (List.mem_append_right _ (List.mem_of_getElem? (i := 69) (by decide +kernel))) rfl
theorem pm_in_X3 : Cond.instantiable RX3 2 ∈ pm_ws := pm_ws_of (List.mem_append_right _ (List.mem_of_getElem? (i := 70) (by decide +kernel))) rfl
theorem pm_m_X6_41 : Cond.methodLinkNest RX6 41 yX3_init "ProcessMill" ∈ lw_tbl := List.mem_append_right _ (List.mem_of_getElem? (i := 71) (by decide +kernel))
theorem pm_m_X3_3 : Cond.methodLink RX3 3 objectInit ∈ pm_ws := pm_ws_of (List.mem_append_right _ (List.mem_of_getElem? (i := 74) (by decide +kernel))) rfl
theorem pm_f_X3_11 : pm_lk RX3 11 RX3 "row" "[I" := Or.inl (pm_ws_of (List.mem_append_right _ (List.mem_of_getElem? (i := 75) (by decide +kernel))) rfl)
theorem pm_f_X2_24 : pm_lk RX2 24 RX3 "row" "[I" := Or.inr ⟨"ProcessMill", List.mem_append_right _ (List.mem_of_getElem? (i := 76) (by decide +kernel))⟩
theorem pm_f_X3_15 : pm_lk RX3 15 RX3 "length" "I" := Or.inl (pm_ws_of (List.mem_append_right _ (List.mem_of_getElem? (i := 77) (by decide +kernel))) rfl)
theorem pm_f_X2_19 : pm_lk RX2 19 RX3 "length" "I" := Or.inr ⟨"ProcessMill", List.mem_append_right _ (List.mem_of_getElem? (i := 78) (by decide +kernel))⟩
theorem pm_f_X6_9 : pm_lk RX6 9 RX6 "program" "[I" := Or.inl (pm_ws_of (List.mem_append_right _ (List.mem_of_getElem? (i := 84) (by decide +kernel))) rfl)
theorem pm_f_X6_15 : pm_lk RX6 15 RX6 "processes" "[LProcessMill$Proc;" := Or.inl (pm_ws_of (List.mem_append_right _ (List.mem_of_getElem? (i := 85) (by decide +kernel))) rfl)
theorem pm_f_X6_19 : pm_lk RX6 19 RX6 "named" "[LProcessMill$Proc;" := Or.inl (pm_ws_of (List.mem_append_right _ (List.mem_of_getElem? (i := 86) (by decide +kernel))) rfl)
theorem pm_f_X6_22 : pm_lk RX6 22 RX6 "dying" "[LProcessMill$Proc;" := Or.inl (pm_ws_of (List.mem_append_right _ (List.mem_of_getElem? (i := 87) (by decide +kernel))) rfl)
theorem pm_f_X6_28 : pm_lk RX6 28 RX6 "watches" "LProcessMill$Watches;" := Or.inl (pm_ws_of (List.mem_append_right _ (List.mem_of_getElem? (i := 88) (by decide +kernel))) rfl)
theorem pm_f_X6_35 : pm_lk RX6 35 RX6 "sheet" "LProcessMill$Sheet;" := Or.inl (pm_ws_of (List.mem_append_right _ (List.mem_of_getElem? (i := 89) (by decide +kernel))) rfl)
theorem pm_f_X6_42 : pm_lk RX6 42 RX6 "letter" "LProcessMill$Term;" := Or.inl (pm_ws_of (List.mem_append_right _ (List.mem_of_getElem? (i := 90) (by decide +kernel))) rfl)
theorem pm_f_X6_46 : pm_lk RX6 46 RX6 "cause" "LProcessMill$Term;" := Or.inl (pm_ws_of (List.mem_append_right _ (List.mem_of_getElem? (i := 91) (by decide +kernel))) rfl)
theorem pm_f_X6_49 : pm_lk RX6 49 RX6 "started" "I" := Or.inl (pm_ws_of (List.mem_append_right _ (List.mem_of_getElem? (i := 92) (by decide +kernel))) rfl)
theorem pm_f_X6_53 : pm_lk RX6 53 RX6 "deaths" "I" := Or.inl (pm_ws_of (List.mem_append_right _ (List.mem_of_getElem? (i := 93) (by decide +kernel))) rfl)
theorem pm_f_X6_56 : pm_lk RX6 56 RX6 "deathsSpread" "I" := Or.inl (pm_ws_of (List.mem_append_right _ (List.mem_of_getElem? (i := 94) (by decide +kernel))) rfl)
theorem pm_f_X6_59 : pm_lk RX6 59 RX6 "turns" "I" := Or.inl (pm_ws_of (List.mem_append_right _ (List.mem_of_getElem? (i := 95) (by decide +kernel))) rfl)
theorem pm_f_X6_62 : pm_lk RX6 62 RX6 "slices" "I" := Or.inl (pm_ws_of (List.mem_append_right _ (List.mem_of_getElem? (i := 96) (by decide +kernel))) rfl)
theorem pm_f_X6_65 : pm_lk RX6 65 RX6 "wordsDone" "I" := Or.inl (pm_ws_of (List.mem_append_right _ (List.mem_of_getElem? (i := 97) (by decide +kernel))) rfl)
theorem pm_f_X6_68 : pm_lk RX6 68 RX6 "time" "I" := Or.inl (pm_ws_of (List.mem_append_right _ (List.mem_of_getElem? (i := 98) (by decide +kernel))) rfl)
theorem pm_f_X6_71 : pm_lk RX6 71 RX6 "messagesCame" "I" := Or.inl (pm_ws_of (List.mem_append_right _ (List.mem_of_getElem? (i := 99) (by decide +kernel))) rfl)
theorem pm_m_L_73 : Cond.methodLink RL 73 yX6_out ∈ pm_ws := pm_ws_of (List.mem_append_right _ (List.mem_of_getElem? (i := 133) (by decide +kernel))) rfl
theorem pm_m_X6_130 : Cond.methodLink RX6 130 yX2_numberAt ∈ pm_ws := pm_ws_of (List.mem_append_right _ (List.mem_of_getElem? (i := 137) (by decide +kernel))) rfl
theorem pm_m_X2_27 : Cond.methodLink RX2 27 yJ9_min_7cf53 ∈ pm_ws := pm_ws_of (List.mem_append_right _ (List.mem_of_getElem? (i := 141) (by decide +kernel))) rfl
theorem pm_m_L_49 : Cond.methodLink RL 49 yL_word ∈ pm_ws := pm_ws_of (List.mem_append_right _ (List.mem_of_getElem? (i := 144) (by decide +kernel))) rfl
theorem pm_c_L_13 : Cond.classLink RL 13 "java/lang/IllegalArgumentException" ∈ pm_ws := pm_ws_of (List.mem_append_right _ (List.mem_of_getElem? (i := 147) (by decide +kernel))) rfl
theorem pm_m_L_7 : Cond.methodLink RL 7 yX6_word ∈ pm_ws := pm_ws_of (List.mem_append_right _ (List.mem_of_getElem? (i := 148) (by decide +kernel))) rfl
theorem pm_m_X6_74 : Cond.methodLink RX6 74 yX6_isBelow ∈ pm_ws := pm_ws_of (List.mem_append_right _ (List.mem_of_getElem? (i := 152) (by decide +kernel))) rfl
theorem pm_c_X6_78 : Cond.classLink RX6 78 "java/lang/IllegalArgumentException" ∈ pm_ws := pm_ws_of (List.mem_append_right _ (List.mem_of_getElem? (i := 155) (by decide +kernel))) rfl
theorem pm_m_L_59 : Cond.methodLink RL 59 yL_start ∈ pm_ws := pm_ws_of (List.mem_append_right _ (List.mem_of_getElem? (i := 217) (by decide +kernel))) rfl
theorem pm_c_L_19 : Cond.classLink RL 19 "java/lang/IllegalStateException" ∈ pm_ws := pm_ws_of (List.mem_append_right _ (List.mem_of_getElem? (i := 220) (by decide +kernel))) rfl
theorem pm_m_L_15 : Cond.methodLink RL 15 yX6_start ∈ pm_ws := pm_ws_of (List.mem_append_right _ (List.mem_of_getElem? (i := 221) (by decide +kernel))) rfl
theorem pm_c_X6_81 : Cond.classLink RX6 81 "java/lang/IllegalStateException" ∈ pm_ws := pm_ws_of (List.mem_append_right _ (List.mem_of_getElem? (i := 225) (by decide +kernel))) rfl
theorem pm_m_X6_84 : Cond.methodLink RX6 84 yX6_beginProcess ∈ pm_ws := pm_ws_of (List.mem_append_right _ (List.mem_of_getElem? (i := 240) (by decide +kernel))) rfl
theorem pm_in_X1 : Cond.instantiable RX1 16 ∈ pm_ws := pm_ws_of (List.mem_append_right _ (List.mem_of_getElem? (i := 244) (by decide +kernel))) rfl
theorem pm_m_X6_173 : Cond.methodLink RX6 173 yX1_init ∈ pm_ws := pm_ws_of (List.mem_append_right _ (List.mem_of_getElem? (i := 245) (by decide +kernel))) rfl
theorem pm_m_X1_3 : Cond.methodLink RX1 3 objectInit ∈ pm_ws := pm_ws_of (List.mem_append_right _ (List.mem_of_getElem? (i := 248) (by decide +kernel))) rfl
theorem pm_c_X1_9 : Cond.classLink RX1 9 RX3 ∈ pm_ws := pm_ws_of (List.mem_append_right _ (List.mem_of_getElem? (i := 249) (by decide +kernel))) rfl
theorem pm_m_X1_17 : Cond.methodLinkNest RX1 17 yX3_init "ProcessMill" ∈ lw_tbl := List.mem_append_right _ (List.mem_of_getElem? (i := 251) (by decide +kernel))
theorem pm_c_X1_22 : Cond.classLink RX1 22 RX0 ∈ pm_ws := pm_ws_of (List.mem_append_right _ (List.mem_of_getElem? (i := 252) (by decide +kernel))) rfl
theorem pm_in_X0 : Cond.instantiable RX0 3 ∈ pm_ws := pm_ws_of (List.mem_append_right _ (List.mem_of_getElem? (i := 253) (by decide +kernel))) rfl
theorem pm_m_X1_24 : Cond.methodLinkNest RX1 24 yX0_init "ProcessMill" ∈ lw_tbl := List.mem_append_right _ (List.mem_of_getElem? (i := 254) (by decide +kernel))
theorem pm_m_X0_1 : Cond.methodLink RX0 1 objectInit ∈ pm_ws := pm_ws_of (List.mem_append_right _ (List.mem_of_getElem? (i := 257) (by decide +kernel))) rfl
theorem pm_c_X0_9 : Cond.classLink RX0 9 RX3 ∈ pm_ws := pm_ws_of (List.mem_append_right _ (List.mem_of_getElem? (i := 258) (by decide +kernel))) rfl
theorem pm_f_X0_11 : pm_lk RX0 11 RX0 "rows" "[LProcessMill$Term;" := Or.inl (pm_ws_of (List.mem_append_right _ (List.mem_of_getElem? (i := 259) (by decide +kernel))) rfl)
theorem pm_f_X0_15 : pm_lk RX0 15 RX0 "count" "I" := Or.inl (pm_ws_of (List.mem_append_right _ (List.mem_of_getElem? (i := 260) (by decide +kernel))) rfl)
theorem pm_f_X1_85 : pm_lk RX1 85 RX0 "count" "I" := Or.inr ⟨"ProcessMill", List.mem_append_right _ (List.mem_of_getElem? (i := 261) (by decide +kernel))⟩
theorem pm_f_X0_19 : pm_lk RX0 19 RX0 "pointer" "I" := Or.inl (pm_ws_of (List.mem_append_right _ (List.mem_of_getElem? (i := 262) (by decide +kernel))) rfl)
theorem pm_f_X1_88 : pm_lk RX1 88 RX0 "pointer" "I" := Or.inr ⟨"ProcessMill", List.mem_append_right _ (List.mem_of_getElem? (i := 263) (by decide +kernel))⟩
theorem pm_c_X1_29 : Cond.classLink RX1 29 RX4 ∈ pm_ws := pm_ws_of (List.mem_append_right _ (List.mem_of_getElem? (i := 271) (by decide +kernel))) rfl
theorem pm_in_X4 : Cond.instantiable RX4 5 ∈ pm_ws := pm_ws_of (List.mem_append_right _ (List.mem_of_getElem? (i := 272) (by decide +kernel))) rfl
theorem pm_m_X1_31 : Cond.methodLinkNest RX1 31 yX4_init "ProcessMill" ∈ lw_tbl := List.mem_append_right _ (List.mem_of_getElem? (i := 273) (by decide +kernel))
theorem pm_m_X4_3 : Cond.methodLink RX4 3 objectInit ∈ pm_ws := pm_ws_of (List.mem_append_right _ (List.mem_of_getElem? (i := 276) (by decide +kernel))) rfl
theorem pm_f_X4_11 : pm_lk RX4 11 RX4 "backs" "[I" := Or.inl (pm_ws_of (List.mem_append_right _ (List.mem_of_getElem? (i := 277) (by decide +kernel))) rfl)
theorem pm_f_X4_15 : pm_lk RX4 15 RX4 "catches" "[I" := Or.inl (pm_ws_of (List.mem_append_right _ (List.mem_of_getElem? (i := 278) (by decide +kernel))) rfl)
theorem pm_f_X4_18 : pm_lk RX4 18 RX4 "backsAtCatch" "[I" := Or.inl (pm_ws_of (List.mem_append_right _ (List.mem_of_getElem? (i := 279) (by decide +kernel))) rfl)
theorem pm_f_X4_21 : pm_lk RX4 21 RX4 "backCount" "I" := Or.inl (pm_ws_of (List.mem_append_right _ (List.mem_of_getElem? (i := 280) (by decide +kernel))) rfl)
theorem pm_f_X1_97 : pm_lk RX1 97 RX4 "backCount" "I" := Or.inr ⟨"ProcessMill", List.mem_append_right _ (List.mem_of_getElem? (i := 281) (by decide +kernel))⟩
theorem pm_f_X4_25 : pm_lk RX4 25 RX4 "catchCount" "I" := Or.inl (pm_ws_of (List.mem_append_right _ (List.mem_of_getElem? (i := 282) (by decide +kernel))) rfl)
theorem pm_f_X1_100 : pm_lk RX1 100 RX4 "catchCount" "I" := Or.inr ⟨"ProcessMill", List.mem_append_right _ (List.mem_of_getElem? (i := 283) (by decide +kernel))⟩
theorem pm_cl_X1_49 : Cond.constantLong RX1 49 (9223372036854775807) ∈ pm_ws := pm_ws_of (List.mem_append_right _ (List.mem_of_getElem? (i := 295) (by decide +kernel))) rfl
theorem pm_f_X1_71 : pm_lk RX1 71 RX1 "pid" "I" := Or.inl (pm_ws_of (List.mem_append_right _ (List.mem_of_getElem? (i := 296) (by decide +kernel))) rfl)
theorem pm_f_X6_88 : pm_lk RX6 88 RX1 "pid" "I" := Or.inr ⟨"ProcessMill", List.mem_append_right _ (List.mem_of_getElem? (i := 297) (by decide +kernel))⟩
theorem pm_f_X1_74 : pm_lk RX1 74 RX1 "priority" "I" := Or.inl (pm_ws_of (List.mem_append_right _ (List.mem_of_getElem? (i := 298) (by decide +kernel))) rfl)
theorem pm_f_X6_342 : pm_lk RX6 342 RX1 "priority" "I" := Or.inr ⟨"ProcessMill", List.mem_append_right _ (List.mem_of_getElem? (i := 299) (by decide +kernel))⟩
theorem pm_f_X1_11 : pm_lk RX1 11 RX1 "registers" "[LProcessMill$Term;" := Or.inl (pm_ws_of (List.mem_append_right _ (List.mem_of_getElem? (i := 300) (by decide +kernel))) rfl)
theorem pm_f_X1_18 : pm_lk RX1 18 RX1 "reason" "LProcessMill$Term;" := Or.inl (pm_ws_of (List.mem_append_right _ (List.mem_of_getElem? (i := 301) (by decide +kernel))) rfl)
theorem pm_f_X6_145 : pm_lk RX6 145 RX1 "reason" "LProcessMill$Term;" := Or.inr ⟨"ProcessMill", List.mem_append_right _ (List.mem_of_getElem? (i := 302) (by decide +kernel))⟩
theorem pm_f_X1_25 : pm_lk RX1 25 RX1 "box" "LProcessMill$Mailbox;" := Or.inl (pm_ws_of (List.mem_append_right _ (List.mem_of_getElem? (i := 303) (by decide +kernel))) rfl)
theorem pm_f_X6_114 : pm_lk RX6 114 RX1 "box" "LProcessMill$Mailbox;" := Or.inr ⟨"ProcessMill", List.mem_append_right _ (List.mem_of_getElem? (i := 304) (by decide +kernel))⟩
theorem pm_f_X1_32 : pm_lk RX1 32 RX1 "trail" "LProcessMill$Trail;" := Or.inl (pm_ws_of (List.mem_append_right _ (List.mem_of_getElem? (i := 305) (by decide +kernel))) rfl)
theorem pm_f_X6_250 : pm_lk RX6 250 RX1 "trail" "LProcessMill$Trail;" := Or.inr ⟨"ProcessMill", List.mem_append_right _ (List.mem_of_getElem? (i := 306) (by decide +kernel))⟩
theorem pm_f_X1_36 : pm_lk RX1 36 RX1 "state" "I" := Or.inl (pm_ws_of (List.mem_append_right _ (List.mem_of_getElem? (i := 307) (by decide +kernel))) rfl)
theorem pm_f_X6_142 : pm_lk RX6 142 RX1 "state" "I" := Or.inr ⟨"ProcessMill", List.mem_append_right _ (List.mem_of_getElem? (i := 308) (by decide +kernel))⟩
theorem pm_f_X1_40 : pm_lk RX1 40 RX1 "at" "I" := Or.inl (pm_ws_of (List.mem_append_right _ (List.mem_of_getElem? (i := 309) (by decide +kernel))) rfl)
theorem pm_f_X6_175 : pm_lk RX6 175 RX1 "at" "I" := Or.inr ⟨"ProcessMill", List.mem_append_right _ (List.mem_of_getElem? (i := 310) (by decide +kernel))⟩
theorem pm_f_X1_43 : pm_lk RX1 43 RX1 "atIfMail" "I" := Or.inl (pm_ws_of (List.mem_append_right _ (List.mem_of_getElem? (i := 311) (by decide +kernel))) rfl)
theorem pm_f_X6_364 : pm_lk RX6 364 RX1 "atIfMail" "I" := Or.inr ⟨"ProcessMill", List.mem_append_right _ (List.mem_of_getElem? (i := 312) (by decide +kernel))⟩
theorem pm_f_X1_46 : pm_lk RX1 46 RX1 "atIfLate" "I" := Or.inl (pm_ws_of (List.mem_append_right _ (List.mem_of_getElem? (i := 313) (by decide +kernel))) rfl)
theorem pm_f_X6_123 : pm_lk RX6 123 RX1 "atIfLate" "I" := Or.inr ⟨"ProcessMill", List.mem_append_right _ (List.mem_of_getElem? (i := 314) (by decide +kernel))⟩
theorem pm_f_X1_51 : pm_lk RX1 51 RX1 "deadline" "J" := Or.inl (pm_ws_of (List.mem_append_right _ (List.mem_of_getElem? (i := 315) (by decide +kernel))) rfl)
theorem pm_f_X6_180 : pm_lk RX6 180 RX1 "deadline" "J" := Or.inr ⟨"ProcessMill", List.mem_append_right _ (List.mem_of_getElem? (i := 316) (by decide +kernel))⟩
theorem pm_f_X1_55 : pm_lk RX1 55 RX1 "turn" "I" := Or.inl (pm_ws_of (List.mem_append_right _ (List.mem_of_getElem? (i := 317) (by decide +kernel))) rfl)
theorem pm_f_X6_187 : pm_lk RX6 187 RX1 "turn" "I" := Or.inr ⟨"ProcessMill", List.mem_append_right _ (List.mem_of_getElem? (i := 318) (by decide +kernel))⟩
theorem pm_f_X1_58 : pm_lk RX1 58 RX1 "name" "I" := Or.inl (pm_ws_of (List.mem_append_right _ (List.mem_of_getElem? (i := 319) (by decide +kernel))) rfl)
theorem pm_f_X6_393 : pm_lk RX6 393 RX1 "name" "I" := Or.inr ⟨"ProcessMill", List.mem_append_right _ (List.mem_of_getElem? (i := 320) (by decide +kernel))⟩
theorem pm_f_X1_61 : pm_lk RX1 61 RX1 "traps" "Z" := Or.inl (pm_ws_of (List.mem_append_right _ (List.mem_of_getElem? (i := 321) (by decide +kernel))) rfl)
theorem pm_f_X6_389 : pm_lk RX6 389 RX1 "traps" "Z" := Or.inr ⟨"ProcessMill", List.mem_append_right _ (List.mem_of_getElem? (i := 322) (by decide +kernel))⟩
theorem pm_f_X1_65 : pm_lk RX1 65 RX1 "links" "J" := Or.inl (pm_ws_of (List.mem_append_right _ (List.mem_of_getElem? (i := 323) (by decide +kernel))) rfl)
theorem pm_f_X1_68 : pm_lk RX1 68 RX1 "wordsDone" "I" := Or.inl (pm_ws_of (List.mem_append_right _ (List.mem_of_getElem? (i := 324) (by decide +kernel))) rfl)
theorem pm_f_X6_197 : pm_lk RX6 197 RX1 "wordsDone" "I" := Or.inr ⟨"ProcessMill", List.mem_append_right _ (List.mem_of_getElem? (i := 325) (by decide +kernel))⟩
theorem pm_m_X6_126 : Cond.methodLink RX6 126 yX6_makeReady ∈ pm_ws := pm_ws_of (List.mem_append_right _ (List.mem_of_getElem? (i := 359) (by decide +kernel))) rfl
theorem pm_cl_X6_178 : Cond.constantLong RX6 178 (9223372036854775807) ∈ pm_ws := pm_ws_of (List.mem_append_right _ (List.mem_of_getElem? (i := 363) (by decide +kernel))) rfl
theorem pm_m_X6_184 : Cond.methodLink RX6 184 yX6_takeLastTurn ∈ pm_ws := pm_ws_of (List.mem_append_right _ (List.mem_of_getElem? (i := 364) (by decide +kernel))) rfl
theorem pm_m_L_63 : Cond.methodLink RL 63 yL_send ∈ pm_ws := pm_ws_of (List.mem_append_right _ (List.mem_of_getElem? (i := 368) (by decide +kernel))) rfl
theorem pm_m_L_21 : Cond.methodLink RL 21 yX6_send ∈ pm_ws := pm_ws_of (List.mem_append_right _ (List.mem_of_getElem? (i := 371) (by decide +kernel))) rfl
theorem pm_m_X6_91 : Cond.methodLink RX6 91 yX6_find ∈ pm_ws := pm_ws_of (List.mem_append_right _ (List.mem_of_getElem? (i := 375) (by decide +kernel))) rfl
theorem pm_m_X6_95 : Cond.methodLink RX6 95 yX3_setSingle ∈ pm_ws := pm_ws_of (List.mem_append_right _ (List.mem_of_getElem? (i := 379) (by decide +kernel))) rfl
theorem pm_m_X3_23 : Cond.methodLink RX3 23 yX3_addSingle ∈ pm_ws := pm_ws_of (List.mem_append_right _ (List.mem_of_getElem? (i := 383) (by decide +kernel))) rfl
theorem pm_m_X6_99 : Cond.methodLink RX6 99 yX6_deliver ∈ pm_ws := pm_ws_of (List.mem_append_right _ (List.mem_of_getElem? (i := 387) (by decide +kernel))) rfl
theorem pm_m_X6_361 : Cond.methodLink RX6 361 yX0_newRow ∈ pm_ws := pm_ws_of (List.mem_append_right _ (List.mem_of_getElem? (i := 391) (by decide +kernel))) rfl
theorem pm_m_X0_26 : Cond.methodLinkNest RX0 26 yX3_init "ProcessMill" ∈ lw_tbl := List.mem_append_right _ (List.mem_of_getElem? (i := 395) (by decide +kernel))
theorem pm_m_X6_323 : Cond.methodLink RX6 323 yX3_copy ∈ pm_ws := pm_ws_of (List.mem_append_right _ (List.mem_of_getElem? (i := 396) (by decide +kernel))) rfl
theorem pm_m_X3_27 : Cond.methodLink RX3 27 arraycopyName ∈ pm_ws := pm_ws_of (List.mem_append_right _ (List.mem_of_getElem? (i := 400) (by decide +kernel))) rfl
theorem pm_m_L_66 : Cond.methodLink RL 66 yL_run ∈ pm_ws := pm_ws_of (List.mem_append_right _ (List.mem_of_getElem? (i := 403) (by decide +kernel))) rfl
theorem pm_m_L_25 : Cond.methodLink RL 25 yX6_run ∈ pm_ws := pm_ws_of (List.mem_append_right _ (List.mem_of_getElem? (i := 406) (by decide +kernel))) rfl
theorem pm_m_X6_103 : Cond.methodLink RX6 103 yX6_nextInTurn ∈ pm_ws := pm_ws_of (List.mem_append_right _ (List.mem_of_getElem? (i := 410) (by decide +kernel))) rfl
theorem pm_m_X6_190 : Cond.methodLink RX6 190 yX1_comesBefore ∈ pm_ws := pm_ws_of (List.mem_append_right _ (List.mem_of_getElem? (i := 414) (by decide +kernel))) rfl
theorem pm_m_X6_107 : Cond.methodLink RX6 107 yX6_doSlice ∈ pm_ws := pm_ws_of (List.mem_append_right _ (List.mem_of_getElem? (i := 418) (by decide +kernel))) rfl
theorem pm_m_X6_194 : Cond.methodLink RX6 194 yX6_place ∈ pm_ws := pm_ws_of (List.mem_append_right _ (List.mem_of_getElem? (i := 422) (by decide +kernel))) rfl
theorem pm_m_X6_161 : Cond.methodLink RX6 161 yJ9_floorMod_7cf53 ∈ pm_ws := pm_ws_of (List.mem_append_right _ (List.mem_of_getElem? (i := 425) (by decide +kernel))) rfl
theorem pm_m_X6_198 : Cond.methodLink RX6 198 yX6_doWord ∈ pm_ws := pm_ws_of (List.mem_append_right _ (List.mem_of_getElem? (i := 428) (by decide +kernel))) rfl
theorem pm_m_X6_137 : Cond.methodLink RX6 137 yX1_x ∈ pm_ws := pm_ws_of (List.mem_append_right _ (List.mem_of_getElem? (i := 432) (by decide +kernel))) rfl
theorem pm_m_X1_77 : Cond.methodLink RX1 77 yJ9_floorMod_7cf53 ∈ pm_ws := pm_ws_of (List.mem_append_right _ (List.mem_of_getElem? (i := 436) (by decide +kernel))) rfl
theorem pm_m_X6_209 : Cond.methodLink RX6 209 yX6_end ∈ pm_ws := pm_ws_of (List.mem_append_right _ (List.mem_of_getElem? (i := 437) (by decide +kernel))) rfl
theorem pm_m_X6_333 : Cond.methodLink RX6 333 yX6_die ∈ pm_ws := pm_ws_of (List.mem_append_right _ (List.mem_of_getElem? (i := 441) (by decide +kernel))) rfl
theorem pm_m_X6_405 : Cond.methodLink RX6 405 yX0_clear ∈ pm_ws := pm_ws_of (List.mem_append_right _ (List.mem_of_getElem? (i := 445) (by decide +kernel))) rfl
theorem pm_m_X6_408 : Cond.methodLink RX6 408 yX4_clear ∈ pm_ws := pm_ws_of (List.mem_append_right _ (List.mem_of_getElem? (i := 449) (by decide +kernel))) rfl
theorem pm_m_X6_409 : Cond.methodLink RX6 409 yX5_dropMadeBy ∈ pm_ws := pm_ws_of (List.mem_append_right _ (List.mem_of_getElem? (i := 453) (by decide +kernel))) rfl
theorem pm_m_X5_30 : Cond.methodLink RX5 30 yX5_dropWhere ∈ pm_ws := pm_ws_of (List.mem_append_right _ (List.mem_of_getElem? (i := 457) (by decide +kernel))) rfl
theorem pm_m_X6_213 : Cond.methodLink RX6 213 yX6_give ∈ pm_ws := pm_ws_of (List.mem_append_right _ (List.mem_of_getElem? (i := 461) (by decide +kernel))) rfl
theorem pm_m_X6_217 : Cond.methodLink RX6 217 yX6_giveCopy ∈ pm_ws := pm_ws_of (List.mem_append_right _ (List.mem_of_getElem? (i := 464) (by decide +kernel))) rfl
theorem pm_m_X6_221 : Cond.methodLink RX6 221 yX6_areNumbers ∈ pm_ws := pm_ws_of (List.mem_append_right _ (List.mem_of_getElem? (i := 467) (by decide +kernel))) rfl
theorem pm_m_X6_167 : Cond.methodLink RX6 167 yX3_kind ∈ pm_ws := pm_ws_of (List.mem_append_right _ (List.mem_of_getElem? (i := 470) (by decide +kernel))) rfl
theorem pm_m_X3_19 : Cond.methodLink RX3 19 yX3_kindOf ∈ pm_ws := pm_ws_of (List.mem_append_right _ (List.mem_of_getElem? (i := 474) (by decide +kernel))) rfl
theorem pm_m_X6_170 : Cond.methodLink RX6 170 yX3_value ∈ pm_ws := pm_ws_of (List.mem_append_right _ (List.mem_of_getElem? (i := 477) (by decide +kernel))) rfl
theorem pm_m_X6_225 : Cond.methodLink RX6 225 yX3_setPair ∈ pm_ws := pm_ws_of (List.mem_append_right _ (List.mem_of_getElem? (i := 481) (by decide +kernel))) rfl
theorem pm_m_X6_228 : Cond.methodLink RX6 228 yX3_setFirst ∈ pm_ws := pm_ws_of (List.mem_append_right _ (List.mem_of_getElem? (i := 485) (by decide +kernel))) rfl
theorem pm_m_X3_33 : Cond.methodLink RX3 33 yX3_kind ∈ pm_ws := pm_ws_of (List.mem_append_right _ (List.mem_of_getElem? (i := 489) (by decide +kernel))) rfl
theorem pm_m_X3_37 : Cond.methodLink RX3 37 yX3_endOfFirst ∈ pm_ws := pm_ws_of (List.mem_append_right _ (List.mem_of_getElem? (i := 490) (by decide +kernel))) rfl
theorem pm_m_X3_40 : Cond.methodLink RX3 40 yX3_setPart ∈ pm_ws := pm_ws_of (List.mem_append_right _ (List.mem_of_getElem? (i := 494) (by decide +kernel))) rfl
theorem pm_m_X6_232 : Cond.methodLink RX6 232 yX3_setSecond ∈ pm_ws := pm_ws_of (List.mem_append_right _ (List.mem_of_getElem? (i := 498) (by decide +kernel))) rfl
theorem pm_m_X6_235 : Cond.methodLink RX6 235 yX6_goOn ∈ pm_ws := pm_ws_of (List.mem_append_right _ (List.mem_of_getElem? (i := 502) (by decide +kernel))) rfl
theorem pm_m_X6_239 : Cond.methodLink RX6 239 yX3_compareWith ∈ pm_ws := pm_ws_of (List.mem_append_right _ (List.mem_of_getElem? (i := 505) (by decide +kernel))) rfl
theorem pm_m_X3_44 : Cond.methodLink RX3 44 yJ9_min_7cf53 ∈ pm_ws := pm_ws_of (List.mem_append_right _ (List.mem_of_getElem? (i := 509) (by decide +kernel))) rfl
theorem pm_m_X6_243 : Cond.methodLink RX6 243 yX6_callWord ∈ pm_ws := pm_ws_of (List.mem_append_right _ (List.mem_of_getElem? (i := 510) (by decide +kernel))) rfl
theorem pm_m_X6_327 : Cond.methodLink RX6 327 yX4_addBack ∈ pm_ws := pm_ws_of (List.mem_append_right _ (List.mem_of_getElem? (i := 513) (by decide +kernel))) rfl
theorem pm_m_X6_247 : Cond.methodLink RX6 247 yX6_comeBack ∈ pm_ws := pm_ws_of (List.mem_append_right _ (List.mem_of_getElem? (i := 517) (by decide +kernel))) rfl
theorem pm_m_X6_330 : Cond.methodLink RX6 330 yX4_takeBack ∈ pm_ws := pm_ws_of (List.mem_append_right _ (List.mem_of_getElem? (i := 521) (by decide +kernel))) rfl
theorem pm_m_X6_254 : Cond.methodLink RX6 254 yX4_addCatch ∈ pm_ws := pm_ws_of (List.mem_append_right _ (List.mem_of_getElem? (i := 525) (by decide +kernel))) rfl
theorem pm_m_X6_260 : Cond.methodLink RX6 260 yX6_dropCatch ∈ pm_ws := pm_ws_of (List.mem_append_right _ (List.mem_of_getElem? (i := 529) (by decide +kernel))) rfl
theorem pm_m_X6_337 : Cond.methodLink RX6 337 yX4_dropCatch ∈ pm_ws := pm_ws_of (List.mem_append_right _ (List.mem_of_getElem? (i := 532) (by decide +kernel))) rfl
theorem pm_m_X6_202 : Cond.methodLink RX6 202 yX6_fail ∈ pm_ws := pm_ws_of (List.mem_append_right _ (List.mem_of_getElem? (i := 536) (by decide +kernel))) rfl
theorem pm_m_X6_339 : Cond.methodLink RX6 339 yX4_takeCatch ∈ pm_ws := pm_ws_of (List.mem_append_right _ (List.mem_of_getElem? (i := 540) (by decide +kernel))) rfl
theorem pm_m_X4_28 : Cond.methodLink RX4 28 yJ9_min_7cf53 ∈ pm_ws := pm_ws_of (List.mem_append_right _ (List.mem_of_getElem? (i := 544) (by decide +kernel))) rfl
theorem pm_m_X6_263 : Cond.methodLink RX6 263 yX6_beget ∈ pm_ws := pm_ws_of (List.mem_append_right _ (List.mem_of_getElem? (i := 545) (by decide +kernel))) rfl
theorem pm_m_X6_345 : Cond.methodLink RX6 345 yX1_linkWith ∈ pm_ws := pm_ws_of (List.mem_append_right _ (List.mem_of_getElem? (i := 549) (by decide +kernel))) rfl
theorem pm_m_X6_267 : Cond.methodLink RX6 267 yX6_post ∈ pm_ws := pm_ws_of (List.mem_append_right _ (List.mem_of_getElem? (i := 553) (by decide +kernel))) rfl
theorem pm_m_X6_313 : Cond.methodLink RX6 313 yX6_findByName ∈ pm_ws := pm_ws_of (List.mem_append_right _ (List.mem_of_getElem? (i := 557) (by decide +kernel))) rfl
theorem pm_m_X6_287 : Cond.methodLink RX6 287 yX6_findByTerm ∈ pm_ws := pm_ws_of (List.mem_append_right _ (List.mem_of_getElem? (i := 561) (by decide +kernel))) rfl
theorem pm_m_X6_270 : Cond.methodLink RX6 270 yX6_readMail ∈ pm_ws := pm_ws_of (List.mem_append_right _ (List.mem_of_getElem? (i := 565) (by decide +kernel))) rfl
theorem pm_m_X6_348 : Cond.methodLink RX6 348 yX0_atPointer ∈ pm_ws := pm_ws_of (List.mem_append_right _ (List.mem_of_getElem? (i := 568) (by decide +kernel))) rfl
theorem pm_m_X0_22 : Cond.methodLink RX0 22 yX0_rowAt ∈ pm_ws := pm_ws_of (List.mem_append_right _ (List.mem_of_getElem? (i := 572) (by decide +kernel))) rfl
theorem pm_m_X6_274 : Cond.methodLink RX6 274 yX6_dropMail ∈ pm_ws := pm_ws_of (List.mem_append_right _ (List.mem_of_getElem? (i := 576) (by decide +kernel))) rfl
theorem pm_m_X6_352 : Cond.methodLink RX6 352 yX0_dropAtPointer ∈ pm_ws := pm_ws_of (List.mem_append_right _ (List.mem_of_getElem? (i := 579) (by decide +kernel))) rfl
theorem pm_m_X6_277 : Cond.methodLink RX6 277 yX6_advance ∈ pm_ws := pm_ws_of (List.mem_append_right _ (List.mem_of_getElem? (i := 583) (by decide +kernel))) rfl
theorem pm_m_X6_355 : Cond.methodLink RX6 355 yX0_advance ∈ pm_ws := pm_ws_of (List.mem_append_right _ (List.mem_of_getElem? (i := 586) (by decide +kernel))) rfl
theorem pm_m_X6_280 : Cond.methodLink RX6 280 yX6_await ∈ pm_ws := pm_ws_of (List.mem_append_right _ (List.mem_of_getElem? (i := 590) (by decide +kernel))) rfl
theorem pm_m_X6_357 : Cond.methodLink RX6 357 yX1_beginToWait ∈ pm_ws := pm_ws_of (List.mem_append_right _ (List.mem_of_getElem? (i := 593) (by decide +kernel))) rfl
theorem pm_m_X6_283 : Cond.methodLink RX6 283 yX6_awaitFor ∈ pm_ws := pm_ws_of (List.mem_append_right _ (List.mem_of_getElem? (i := 597) (by decide +kernel))) rfl
theorem pm_m_X6_118 : Cond.methodLink RX6 118 yX0_pointToFirst ∈ pm_ws := pm_ws_of (List.mem_append_right _ (List.mem_of_getElem? (i := 601) (by decide +kernel))) rfl
theorem pm_m_X6_291 : Cond.methodLink RX6 291 yX6_link ∈ pm_ws := pm_ws_of (List.mem_append_right _ (List.mem_of_getElem? (i := 605) (by decide +kernel))) rfl
theorem pm_m_X6_367 : Cond.methodLink RX6 367 yX6_getExit ∈ pm_ws := pm_ws_of (List.mem_append_right _ (List.mem_of_getElem? (i := 609) (by decide +kernel))) rfl
theorem pm_m_X6_398 : Cond.methodLink RX6 398 yX3_isAtom ∈ pm_ws := pm_ws_of (List.mem_append_right _ (List.mem_of_getElem? (i := 613) (by decide +kernel))) rfl
theorem pm_m_X6_401 : Cond.methodLink RX6 401 yX3_setExit ∈ pm_ws := pm_ws_of (List.mem_append_right _ (List.mem_of_getElem? (i := 617) (by decide +kernel))) rfl
theorem pm_m_X3_50 : Cond.methodLink RX3 50 yX3_addPairSign ∈ pm_ws := pm_ws_of (List.mem_append_right _ (List.mem_of_getElem? (i := 621) (by decide +kernel))) rfl
theorem pm_m_X3_53 : Cond.methodLink RX3 53 yX3_addReason ∈ pm_ws := pm_ws_of (List.mem_append_right _ (List.mem_of_getElem? (i := 625) (by decide +kernel))) rfl
theorem pm_m_X6_295 : Cond.methodLink RX6 295 yX6_unlink ∈ pm_ws := pm_ws_of (List.mem_append_right _ (List.mem_of_getElem? (i := 629) (by decide +kernel))) rfl
theorem pm_m_X6_371 : Cond.methodLink RX6 371 yX1_unlinkFrom ∈ pm_ws := pm_ws_of (List.mem_append_right _ (List.mem_of_getElem? (i := 632) (by decide +kernel))) rfl
theorem pm_cl_X1_83 : Cond.constantLong RX1 83 (-1) ∈ pm_ws := pm_ws_of (List.mem_append_right _ (List.mem_of_getElem? (i := 636) (by decide +kernel))) rfl
theorem pm_m_X6_298 : Cond.methodLink RX6 298 yX6_watch ∈ pm_ws := pm_ws_of (List.mem_append_right _ (List.mem_of_getElem? (i := 637) (by decide +kernel))) rfl
theorem pm_m_X6_374 : Cond.methodLink RX6 374 yX5_isFull ∈ pm_ws := pm_ws_of (List.mem_append_right _ (List.mem_of_getElem? (i := 641) (by decide +kernel))) rfl
theorem pm_m_X6_378 : Cond.methodLink RX6 378 yX5_nextNumber ∈ pm_ws := pm_ws_of (List.mem_append_right _ (List.mem_of_getElem? (i := 645) (by decide +kernel))) rfl
theorem pm_m_X6_381 : Cond.methodLink RX6 381 yX3_setDown ∈ pm_ws := pm_ws_of (List.mem_append_right _ (List.mem_of_getElem? (i := 649) (by decide +kernel))) rfl
theorem pm_m_X6_385 : Cond.methodLink RX6 385 yX5_add ∈ pm_ws := pm_ws_of (List.mem_append_right _ (List.mem_of_getElem? (i := 653) (by decide +kernel))) rfl
theorem pm_m_X5_26 : Cond.methodLink RX5 26 yX5_isFull ∈ pm_ws := pm_ws_of (List.mem_append_right _ (List.mem_of_getElem? (i := 657) (by decide +kernel))) rfl
theorem pm_m_X6_302 : Cond.methodLink RX6 302 yX6_exit ∈ pm_ws := pm_ws_of (List.mem_append_right _ (List.mem_of_getElem? (i := 658) (by decide +kernel))) rfl
theorem pm_m_X6_306 : Cond.methodLink RX6 306 yX6_trap ∈ pm_ws := pm_ws_of (List.mem_append_right _ (List.mem_of_getElem? (i := 662) (by decide +kernel))) rfl
theorem pm_m_X6_310 : Cond.methodLink RX6 310 yX6_takeName ∈ pm_ws := pm_ws_of (List.mem_append_right _ (List.mem_of_getElem? (i := 665) (by decide +kernel))) rfl
theorem pm_m_X6_316 : Cond.methodLink RX6 316 yX6_lookUp ∈ pm_ws := pm_ws_of (List.mem_append_right _ (List.mem_of_getElem? (i := 669) (by decide +kernel))) rfl
theorem pm_m_X6_320 : Cond.methodLink RX6 320 yX6_print ∈ pm_ws := pm_ws_of (List.mem_append_right _ (List.mem_of_getElem? (i := 672) (by decide +kernel))) rfl
theorem pm_m_X6_396 : Cond.methodLink RX6 396 yX2_print ∈ pm_ws := pm_ws_of (List.mem_append_right _ (List.mem_of_getElem? (i := 676) (by decide +kernel))) rfl
theorem pm_m_X6_206 : Cond.methodLink RX6 206 yX6_spreadDeaths ∈ pm_ws := pm_ws_of (List.mem_append_right _ (List.mem_of_getElem? (i := 680) (by decide +kernel))) rfl
theorem pm_m_X6_413 : Cond.methodLink RX6 413 yX6_tellLinked ∈ pm_ws := pm_ws_of (List.mem_append_right _ (List.mem_of_getElem? (i := 684) (by decide +kernel))) rfl
theorem pm_m_X6_419 : Cond.methodLink RX6 419 yX1_isLinkedWith ∈ pm_ws := pm_ws_of (List.mem_append_right _ (List.mem_of_getElem? (i := 688) (by decide +kernel))) rfl
theorem pm_m_X6_416 : Cond.methodLink RX6 416 yX6_tellWatchers ∈ pm_ws := pm_ws_of (List.mem_append_right _ (List.mem_of_getElem? (i := 692) (by decide +kernel))) rfl
theorem pm_m_X6_435 : Cond.methodLink RX6 435 yX5_dropThoseOf ∈ pm_ws := pm_ws_of (List.mem_append_right _ (List.mem_of_getElem? (i := 696) (by decide +kernel))) rfl
theorem pm_m_L_70 : Cond.methodLink RL 70 yL_pass ∈ pm_ws := pm_ws_of (List.mem_append_right _ (List.mem_of_getElem? (i := 700) (by decide +kernel))) rfl
theorem pm_m_L_29 : Cond.methodLink RL 29 yX6_pass ∈ pm_ws := pm_ws_of (List.mem_append_right _ (List.mem_of_getElem? (i := 703) (by decide +kernel))) rfl
theorem pm_m_X6_111 : Cond.methodLink RX6 111 yX6_firstDue ∈ pm_ws := pm_ws_of (List.mem_append_right _ (List.mem_of_getElem? (i := 707) (by decide +kernel))) rfl
theorem pm_m_L_77 : Cond.methodLink RL 77 yL_process ∈ pm_ws := pm_ws_of (List.mem_append_right _ (List.mem_of_getElem? (i := 711) (by decide +kernel))) rfl
theorem pm_m_L_32 : Cond.methodLink RL 32 yX6_process ∈ pm_ws := pm_ws_of (List.mem_append_right _ (List.mem_of_getElem? (i := 714) (by decide +kernel))) rfl
theorem pm_m_X6_134 : Cond.methodLink RX6 134 yX1_fact ∈ pm_ws := pm_ws_of (List.mem_append_right _ (List.mem_of_getElem? (i := 718) (by decide +kernel))) rfl
theorem pm_m_X1_91 : Cond.methodLink RX1 91 yJ13_bitCount_95d88 ∈ pm_ws := pm_ws_of (List.mem_append_right _ (List.mem_of_getElem? (i := 722) (by decide +kernel))) rfl
theorem pm_cl_J13_314 : Cond.constantLong RJ13 314 (6148914691236517205) ∈ pm_ws := pm_ws_of (List.mem_append_right _ (List.mem_of_getElem? (i := 725) (by decide +kernel))) rfl
theorem pm_cl_J13_316 : Cond.constantLong RJ13 316 (3689348814741910323) ∈ pm_ws := pm_ws_of (List.mem_append_right _ (List.mem_of_getElem? (i := 726) (by decide +kernel))) rfl
theorem pm_cl_J13_318 : Cond.constantLong RJ13 318 (1085102592571150095) ∈ pm_ws := pm_ws_of (List.mem_append_right _ (List.mem_of_getElem? (i := 727) (by decide +kernel))) rfl
theorem pm_m_L_80 : Cond.methodLink RL 80 yL_register ∈ pm_ws := pm_ws_of (List.mem_append_right _ (List.mem_of_getElem? (i := 728) (by decide +kernel))) rfl
theorem pm_m_L_35 : Cond.methodLink RL 35 yX6_register ∈ pm_ws := pm_ws_of (List.mem_append_right _ (List.mem_of_getElem? (i := 731) (by decide +kernel))) rfl
theorem pm_m_X6_141 : Cond.methodLink RX6 141 yX3_numberAt ∈ pm_ws := pm_ws_of (List.mem_append_right _ (List.mem_of_getElem? (i := 735) (by decide +kernel))) rfl
theorem pm_m_L_84 : Cond.methodLink RL 84 yL_message ∈ pm_ws := pm_ws_of (List.mem_append_right _ (List.mem_of_getElem? (i := 739) (by decide +kernel))) rfl
theorem pm_m_L_39 : Cond.methodLink RL 39 yX6_message ∈ pm_ws := pm_ws_of (List.mem_append_right _ (List.mem_of_getElem? (i := 742) (by decide +kernel))) rfl
theorem pm_m_X6_148 : Cond.methodLink RX6 148 yX0_rowAt ∈ pm_ws := pm_ws_of (List.mem_append_right _ (List.mem_of_getElem? (i := 746) (by decide +kernel))) rfl
theorem pm_m_L_87 : Cond.methodLink RL 87 yL_total ∈ pm_ws := pm_ws_of (List.mem_append_right _ (List.mem_of_getElem? (i := 747) (by decide +kernel))) rfl
theorem pm_m_L_42 : Cond.methodLink RL 42 yX6_total ∈ pm_ws := pm_ws_of (List.mem_append_right _ (List.mem_of_getElem? (i := 750) (by decide +kernel))) rfl
theorem pm_m_X6_151 : Cond.methodLink RX6 151 yX6_readyOnes ∈ pm_ws := pm_ws_of (List.mem_append_right _ (List.mem_of_getElem? (i := 754) (by decide +kernel))) rfl
theorem pm_c_L_46 : Cond.classLink RL 46 RX7 ∈ pm_ws := pm_ws_of (List.mem_append_right _ (List.mem_of_getElem? (i := 758) (by decide +kernel))) rfl
theorem pm_in_X7 : Cond.instantiable RX7 41 ∈ pm_ws := pm_ws_of (List.mem_append_right _ (List.mem_of_getElem? (i := 759) (by decide +kernel))) rfl
theorem pm_m_L_48 : Cond.methodLink RL 48 yX7_init ∈ pm_ws := pm_ws_of (List.mem_append_right _ (List.mem_of_getElem? (i := 760) (by decide +kernel))) rfl
theorem pm_m_X7_1 : Cond.methodLink RX7 1 objectInit ∈ pm_ws := pm_ws_of (List.mem_append_right _ (List.mem_of_getElem? (i := 763) (by decide +kernel))) rfl
theorem pm_cn_X7_7 : Cond.constant RX7 7 279775 ∈ pm_ws := pm_ws_of (List.mem_append_right _ (List.mem_of_getElem? (i := 764) (by decide +kernel))) rfl
theorem pm_f_X7_8 : pm_lk RX7 8 RX7 "told" "[I" := Or.inl (pm_ws_of (List.mem_append_right _ (List.mem_of_getElem? (i := 765) (by decide +kernel))) rfl)
theorem pm_f_X7_14 : pm_lk RX7 14 RX7 "sizes" "[I" := Or.inl (pm_ws_of (List.mem_append_right _ (List.mem_of_getElem? (i := 766) (by decide +kernel))) rfl)
theorem pm_f_X7_17 : pm_lk RX7 17 RX7 "operations" "[I" := Or.inl (pm_ws_of (List.mem_append_right _ (List.mem_of_getElem? (i := 767) (by decide +kernel))) rfl)
theorem pm_f_X7_20 : pm_lk RX7 20 RX7 "as" "[I" := Or.inl (pm_ws_of (List.mem_append_right _ (List.mem_of_getElem? (i := 768) (by decide +kernel))) rfl)
theorem pm_f_X7_23 : pm_lk RX7 23 RX7 "bs" "[I" := Or.inl (pm_ws_of (List.mem_append_right _ (List.mem_of_getElem? (i := 769) (by decide +kernel))) rfl)
theorem pm_f_X7_26 : pm_lk RX7 26 RX7 "cs" "[I" := Or.inl (pm_ws_of (List.mem_append_right _ (List.mem_of_getElem? (i := 770) (by decide +kernel))) rfl)
theorem pm_f_X7_29 : pm_lk RX7 29 RX7 "state" "[I" := Or.inl (pm_ws_of (List.mem_append_right _ (List.mem_of_getElem? (i := 771) (by decide +kernel))) rfl)
theorem pm_f_X7_32 : pm_lk RX7 32 RX7 "place" "[I" := Or.inl (pm_ws_of (List.mem_append_right _ (List.mem_of_getElem? (i := 772) (by decide +kernel))) rfl)
theorem pm_f_X7_35 : pm_lk RX7 35 RX7 "priority" "[I" := Or.inl (pm_ws_of (List.mem_append_right _ (List.mem_of_getElem? (i := 773) (by decide +kernel))) rfl)
theorem pm_f_X7_38 : pm_lk RX7 38 RX7 "name" "[I" := Or.inl (pm_ws_of (List.mem_append_right _ (List.mem_of_getElem? (i := 774) (by decide +kernel))) rfl)
theorem pm_f_X7_41 : pm_lk RX7 41 RX7 "traps" "[Z" := Or.inl (pm_ws_of (List.mem_append_right _ (List.mem_of_getElem? (i := 775) (by decide +kernel))) rfl)
theorem pm_f_X7_45 : pm_lk RX7 45 RX7 "mail" "[I" := Or.inl (pm_ws_of (List.mem_append_right _ (List.mem_of_getElem? (i := 776) (by decide +kernel))) rfl)
theorem pm_f_X7_48 : pm_lk RX7 48 RX7 "pointer" "[I" := Or.inl (pm_ws_of (List.mem_append_right _ (List.mem_of_getElem? (i := 777) (by decide +kernel))) rfl)
theorem pm_f_X7_51 : pm_lk RX7 51 RX7 "backs" "[I" := Or.inl (pm_ws_of (List.mem_append_right _ (List.mem_of_getElem? (i := 778) (by decide +kernel))) rfl)
theorem pm_f_X7_54 : pm_lk RX7 54 RX7 "backCount" "[I" := Or.inl (pm_ws_of (List.mem_append_right _ (List.mem_of_getElem? (i := 779) (by decide +kernel))) rfl)
theorem pm_f_X7_57 : pm_lk RX7 57 RX7 "catches" "[I" := Or.inl (pm_ws_of (List.mem_append_right _ (List.mem_of_getElem? (i := 780) (by decide +kernel))) rfl)
theorem pm_f_X7_60 : pm_lk RX7 60 RX7 "caught" "[I" := Or.inl (pm_ws_of (List.mem_append_right _ (List.mem_of_getElem? (i := 781) (by decide +kernel))) rfl)
theorem pm_f_X7_63 : pm_lk RX7 63 RX7 "catchCount" "[I" := Or.inl (pm_ws_of (List.mem_append_right _ (List.mem_of_getElem? (i := 782) (by decide +kernel))) rfl)
theorem pm_f_X7_66 : pm_lk RX7 66 RX7 "done" "[I" := Or.inl (pm_ws_of (List.mem_append_right _ (List.mem_of_getElem? (i := 783) (by decide +kernel))) rfl)
theorem pm_f_X7_69 : pm_lk RX7 69 RX7 "onTo" "[I" := Or.inl (pm_ws_of (List.mem_append_right _ (List.mem_of_getElem? (i := 784) (by decide +kernel))) rfl)
theorem pm_f_X7_72 : pm_lk RX7 72 RX7 "lateTo" "[I" := Or.inl (pm_ws_of (List.mem_append_right _ (List.mem_of_getElem? (i := 785) (by decide +kernel))) rfl)
theorem pm_f_X7_75 : pm_lk RX7 75 RX7 "due" "[I" := Or.inl (pm_ws_of (List.mem_append_right _ (List.mem_of_getElem? (i := 786) (by decide +kernel))) rfl)
theorem pm_f_X7_78 : pm_lk RX7 78 RX7 "timed" "[Z" := Or.inl (pm_ws_of (List.mem_append_right _ (List.mem_of_getElem? (i := 787) (by decide +kernel))) rfl)
theorem pm_f_X7_81 : pm_lk RX7 81 RX7 "since" "[I" := Or.inl (pm_ws_of (List.mem_append_right _ (List.mem_of_getElem? (i := 788) (by decide +kernel))) rfl)
theorem pm_f_X7_84 : pm_lk RX7 84 RX7 "linked" "[Z" := Or.inl (pm_ws_of (List.mem_append_right _ (List.mem_of_getElem? (i := 789) (by decide +kernel))) rfl)
theorem pm_f_X7_121 : pm_lk RX7 121 RX7 "count" "I" := Or.inl (pm_ws_of (List.mem_append_right _ (List.mem_of_getElem? (i := 790) (by decide +kernel))) rfl)
theorem pm_f_X7_118 : pm_lk RX7 118 RX7 "readies" "I" := Or.inl (pm_ws_of (List.mem_append_right _ (List.mem_of_getElem? (i := 791) (by decide +kernel))) rfl)
theorem pm_f_X7_87 : pm_lk RX7 87 RX7 "watchers" "[I" := Or.inl (pm_ws_of (List.mem_append_right _ (List.mem_of_getElem? (i := 792) (by decide +kernel))) rfl)
theorem pm_f_X7_90 : pm_lk RX7 90 RX7 "watched" "[I" := Or.inl (pm_ws_of (List.mem_append_right _ (List.mem_of_getElem? (i := 793) (by decide +kernel))) rfl)
theorem pm_f_X7_93 : pm_lk RX7 93 RX7 "numbers" "[I" := Or.inl (pm_ws_of (List.mem_append_right _ (List.mem_of_getElem? (i := 794) (by decide +kernel))) rfl)
theorem pm_f_X7_151 : pm_lk RX7 151 RX7 "watchCount" "I" := Or.inl (pm_ws_of (List.mem_append_right _ (List.mem_of_getElem? (i := 795) (by decide +kernel))) rfl)
theorem pm_f_X7_257 : pm_lk RX7 257 RX7 "made" "I" := Or.inl (pm_ws_of (List.mem_append_right _ (List.mem_of_getElem? (i := 796) (by decide +kernel))) rfl)
theorem pm_f_X7_96 : pm_lk RX7 96 RX7 "fallen" "[I" := Or.inl (pm_ws_of (List.mem_append_right _ (List.mem_of_getElem? (i := 797) (by decide +kernel))) rfl)
theorem pm_f_X7_157 : pm_lk RX7 157 RX7 "fallenCount" "I" := Or.inl (pm_ws_of (List.mem_append_right _ (List.mem_of_getElem? (i := 798) (by decide +kernel))) rfl)
theorem pm_f_X7_99 : pm_lk RX7 99 RX7 "out" "[I" := Or.inl (pm_ws_of (List.mem_append_right _ (List.mem_of_getElem? (i := 799) (by decide +kernel))) rfl)
theorem pm_f_X7_260 : pm_lk RX7 260 RX7 "printed" "I" := Or.inl (pm_ws_of (List.mem_append_right _ (List.mem_of_getElem? (i := 800) (by decide +kernel))) rfl)
theorem pm_f_X7_263 : pm_lk RX7 263 RX7 "slices" "I" := Or.inl (pm_ws_of (List.mem_append_right _ (List.mem_of_getElem? (i := 801) (by decide +kernel))) rfl)
theorem pm_f_X7_206 : pm_lk RX7 206 RX7 "allDone" "I" := Or.inl (pm_ws_of (List.mem_append_right _ (List.mem_of_getElem? (i := 802) (by decide +kernel))) rfl)
theorem pm_f_X7_251 : pm_lk RX7 251 RX7 "time" "I" := Or.inl (pm_ws_of (List.mem_append_right _ (List.mem_of_getElem? (i := 803) (by decide +kernel))) rfl)
theorem pm_f_X7_140 : pm_lk RX7 140 RX7 "came" "I" := Or.inl (pm_ws_of (List.mem_append_right _ (List.mem_of_getElem? (i := 804) (by decide +kernel))) rfl)
theorem pm_f_X7_102 : pm_lk RX7 102 RX7 "thrown" "I" := Or.inl (pm_ws_of (List.mem_append_right _ (List.mem_of_getElem? (i := 805) (by decide +kernel))) rfl)
theorem pm_ac_boolean : Cond.arrayClass .boolean ∈ pm_ws := pm_ws_of (List.mem_append_right _ (List.mem_of_getElem? (i := 889) (by decide +kernel))) rfl
theorem pm_m_L_55 : Cond.methodLink RL 55 yX7_thrown ∈ pm_ws := pm_ws_of (List.mem_append_right _ (List.mem_of_getElem? (i := 890) (by decide +kernel))) rfl
theorem pm_m_L_54 : Cond.methodLink RL 54 yX7_word ∈ pm_ws := pm_ws_of (List.mem_append_right _ (List.mem_of_getElem? (i := 894) (by decide +kernel))) rfl
theorem pm_m_X7_110 : Cond.methodLink RX7 110 yX7_within ∈ pm_ws := pm_ws_of (List.mem_append_right _ (List.mem_of_getElem? (i := 898) (by decide +kernel))) rfl
theorem pm_m_X7_114 : Cond.methodLink RX7 114 yX7_fails ∈ pm_ws := pm_ws_of (List.mem_append_right _ (List.mem_of_getElem? (i := 901) (by decide +kernel))) rfl
theorem pm_m_L_62 : Cond.methodLink RL 62 yX7_start ∈ pm_ws := pm_ws_of (List.mem_append_right _ (List.mem_of_getElem? (i := 905) (by decide +kernel))) rfl
theorem pm_m_X7_132 : Cond.methodLink RX7 132 yX7_create ∈ pm_ws := pm_ws_of (List.mem_append_right _ (List.mem_of_getElem? (i := 909) (by decide +kernel))) rfl
theorem pm_m_X7_124 : Cond.methodLink RX7 124 yX7_set ∈ pm_ws := pm_ws_of (List.mem_append_right _ (List.mem_of_getElem? (i := 913) (by decide +kernel))) rfl
theorem pm_m_X7_128 : Cond.methodLink RX7 128 yX7_becomesReady ∈ pm_ws := pm_ws_of (List.mem_append_right _ (List.mem_of_getElem? (i := 917) (by decide +kernel))) rfl
theorem pm_m_L_65 : Cond.methodLink RL 65 yX7_send ∈ pm_ws := pm_ws_of (List.mem_append_right _ (List.mem_of_getElem? (i := 921) (by decide +kernel))) rfl
theorem pm_m_X7_143 : Cond.methodLink RX7 143 yX7_isProcess ∈ pm_ws := pm_ws_of (List.mem_append_right _ (List.mem_of_getElem? (i := 925) (by decide +kernel))) rfl
theorem pm_m_X7_147 : Cond.methodLink RX7 147 yX7_comes ∈ pm_ws := pm_ws_of (List.mem_append_right _ (List.mem_of_getElem? (i := 929) (by decide +kernel))) rfl
theorem pm_m_X7_136 : Cond.methodLink RX7 136 yX7_copy ∈ pm_ws := pm_ws_of (List.mem_append_right _ (List.mem_of_getElem? (i := 933) (by decide +kernel))) rfl
theorem pm_m_L_69 : Cond.methodLink RL 69 yX7_run ∈ pm_ws := pm_ws_of (List.mem_append_right _ (List.mem_of_getElem? (i := 937) (by decide +kernel))) rfl
theorem pm_m_X7_266 : Cond.methodLink RX7 266 yX7_nextReady ∈ pm_ws := pm_ws_of (List.mem_append_right _ (List.mem_of_getElem? (i := 941) (by decide +kernel))) rfl
theorem pm_m_X7_270 : Cond.methodLink RX7 270 yX7_step ∈ pm_ws := pm_ws_of (List.mem_append_right _ (List.mem_of_getElem? (i := 945) (by decide +kernel))) rfl
theorem pm_m_X7_209 : Cond.methodLink RX7 209 yX7_registerOf ∈ pm_ws := pm_ws_of (List.mem_append_right _ (List.mem_of_getElem? (i := 949) (by decide +kernel))) rfl
theorem pm_m_X7_199 : Cond.methodLink RX7 199 yX7_mod ∈ pm_ws := pm_ws_of (List.mem_append_right _ (List.mem_of_getElem? (i := 952) (by decide +kernel))) rfl
theorem pm_m_X7_212 : Cond.methodLink RX7 212 yX7_simple ∈ pm_ws := pm_ws_of (List.mem_append_right _ (List.mem_of_getElem? (i := 955) (by decide +kernel))) rfl
theorem pm_m_X7_229 : Cond.methodLink RX7 229 yX7_endsBy ∈ pm_ws := pm_ws_of (List.mem_append_right _ (List.mem_of_getElem? (i := 959) (by decide +kernel))) rfl
theorem pm_m_X7_187 : Cond.methodLink RX7 187 yX7_dies ∈ pm_ws := pm_ws_of (List.mem_append_right _ (List.mem_of_getElem? (i := 963) (by decide +kernel))) rfl
theorem pm_m_X7_154 : Cond.methodLink RX7 154 yX7_dropWatch ∈ pm_ws := pm_ws_of (List.mem_append_right _ (List.mem_of_getElem? (i := 967) (by decide +kernel))) rfl
theorem pm_m_X7_232 : Cond.methodLink RX7 232 yX7_reckons ∈ pm_ws := pm_ws_of (List.mem_append_right _ (List.mem_of_getElem? (i := 971) (by decide +kernel))) rfl
theorem pm_m_X7_178 : Cond.methodLink RX7 178 yX7_is ∈ pm_ws := pm_ws_of (List.mem_append_right _ (List.mem_of_getElem? (i := 975) (by decide +kernel))) rfl
theorem pm_m_X7_106 : Cond.methodLink RX7 106 yX7_kindOf ∈ pm_ws := pm_ws_of (List.mem_append_right _ (List.mem_of_getElem? (i := 979) (by decide +kernel))) rfl
theorem pm_m_X7_202 : Cond.methodLink RX7 202 yX7_bad ∈ pm_ws := pm_ws_of (List.mem_append_right _ (List.mem_of_getElem? (i := 983) (by decide +kernel))) rfl
theorem pm_m_X7_193 : Cond.methodLink RX7 193 yX7_failsWith ∈ pm_ws := pm_ws_of (List.mem_append_right _ (List.mem_of_getElem? (i := 987) (by decide +kernel))) rfl
theorem pm_m_X7_196 : Cond.methodLink RX7 196 yX7_failsOf ∈ pm_ws := pm_ws_of (List.mem_append_right _ (List.mem_of_getElem? (i := 991) (by decide +kernel))) rfl
theorem pm_m_X7_181 : Cond.methodLink RX7 181 yX7_valueOf ∈ pm_ws := pm_ws_of (List.mem_append_right _ (List.mem_of_getElem? (i := 995) (by decide +kernel))) rfl
theorem pm_m_X7_172 : Cond.methodLink RX7 172 yX7_ends ∈ pm_ws := pm_ws_of (List.mem_append_right _ (List.mem_of_getElem? (i := 999) (by decide +kernel))) rfl
theorem pm_m_X7_175 : Cond.methodLink RX7 175 yX7_pair ∈ pm_ws := pm_ws_of (List.mem_append_right _ (List.mem_of_getElem? (i := 1003) (by decide +kernel))) rfl
theorem pm_m_X7_236 : Cond.methodLink RX7 236 yX7_behind ∈ pm_ws := pm_ws_of (List.mem_append_right _ (List.mem_of_getElem? (i := 1007) (by decide +kernel))) rfl
theorem pm_m_X7_239 : Cond.methodLink RX7 239 yX7_part ∈ pm_ws := pm_ws_of (List.mem_append_right _ (List.mem_of_getElem? (i := 1011) (by decide +kernel))) rfl
theorem pm_m_X7_242 : Cond.methodLink RX7 242 yX7_compare ∈ pm_ws := pm_ws_of (List.mem_append_right _ (List.mem_of_getElem? (i := 1015) (by decide +kernel))) rfl
theorem pm_m_X7_216 : Cond.methodLink RX7 216 yX7_calls ∈ pm_ws := pm_ws_of (List.mem_append_right _ (List.mem_of_getElem? (i := 1019) (by decide +kernel))) rfl
theorem pm_m_X7_160 : Cond.methodLink RX7 160 yX7_link ∈ pm_ws := pm_ws_of (List.mem_append_right _ (List.mem_of_getElem? (i := 1023) (by decide +kernel))) rfl
theorem pm_m_X7_220 : Cond.methodLink RX7 220 yX7_mails ∈ pm_ws := pm_ws_of (List.mem_append_right _ (List.mem_of_getElem? (i := 1027) (by decide +kernel))) rfl
theorem pm_m_X7_245 : Cond.methodLink RX7 245 yX7_withName ∈ pm_ws := pm_ws_of (List.mem_append_right _ (List.mem_of_getElem? (i := 1031) (by decide +kernel))) rfl
theorem pm_m_X7_248 : Cond.methodLink RX7 248 yX7_waits ∈ pm_ws := pm_ws_of (List.mem_append_right _ (List.mem_of_getElem? (i := 1035) (by decide +kernel))) rfl
theorem pm_cl_X7_254 : Cond.constantLong RX7 254 (2000000000) ∈ pm_ws := pm_ws_of (List.mem_append_right _ (List.mem_of_getElem? (i := 1039) (by decide +kernel))) rfl
theorem pm_cn_X7_256 : Cond.constant RX7 256 2000000000 ∈ pm_ws := pm_ws_of (List.mem_append_right _ (List.mem_of_getElem? (i := 1040) (by decide +kernel))) rfl
theorem pm_m_X7_223 : Cond.methodLink RX7 223 yX7_others ∈ pm_ws := pm_ws_of (List.mem_append_right _ (List.mem_of_getElem? (i := 1041) (by decide +kernel))) rfl
theorem pm_m_X7_164 : Cond.methodLink RX7 164 yX7_exit ∈ pm_ws := pm_ws_of (List.mem_append_right _ (List.mem_of_getElem? (i := 1045) (by decide +kernel))) rfl
theorem pm_m_X7_184 : Cond.methodLink RX7 184 yX7_isAtom ∈ pm_ws := pm_ws_of (List.mem_append_right _ (List.mem_of_getElem? (i := 1049) (by decide +kernel))) rfl
theorem pm_m_X7_190 : Cond.methodLink RX7 190 yX7_tells ∈ pm_ws := pm_ws_of (List.mem_append_right _ (List.mem_of_getElem? (i := 1053) (by decide +kernel))) rfl
theorem pm_m_X7_168 : Cond.methodLink RX7 168 yX7_tellsDown ∈ pm_ws := pm_ws_of (List.mem_append_right _ (List.mem_of_getElem? (i := 1057) (by decide +kernel))) rfl
theorem pm_m_X7_226 : Cond.methodLink RX7 226 yX7_spread ∈ pm_ws := pm_ws_of (List.mem_append_right _ (List.mem_of_getElem? (i := 1061) (by decide +kernel))) rfl
theorem pm_m_L_72 : Cond.methodLink RL 72 yX7_pass ∈ pm_ws := pm_ws_of (List.mem_append_right _ (List.mem_of_getElem? (i := 1065) (by decide +kernel))) rfl
theorem pm_m_L_76 : Cond.methodLink RL 76 yX7_out ∈ pm_ws := pm_ws_of (List.mem_append_right _ (List.mem_of_getElem? (i := 1069) (by decide +kernel))) rfl
theorem pm_m_L_79 : Cond.methodLink RL 79 yX7_process ∈ pm_ws := pm_ws_of (List.mem_append_right _ (List.mem_of_getElem? (i := 1073) (by decide +kernel))) rfl
theorem pm_m_L_83 : Cond.methodLink RL 83 yX7_register ∈ pm_ws := pm_ws_of (List.mem_append_right _ (List.mem_of_getElem? (i := 1077) (by decide +kernel))) rfl
theorem pm_m_X7_273 : Cond.methodLink RX7 273 yX7_numberOf ∈ pm_ws := pm_ws_of (List.mem_append_right _ (List.mem_of_getElem? (i := 1081) (by decide +kernel))) rfl
theorem pm_m_L_86 : Cond.methodLink RL 86 yX7_message ∈ pm_ws := pm_ws_of (List.mem_append_right _ (List.mem_of_getElem? (i := 1085) (by decide +kernel))) rfl
theorem pm_m_L_89 : Cond.methodLink RL 89 yX7_total ∈ pm_ws := pm_ws_of (List.mem_append_right _ (List.mem_of_getElem? (i := 1089) (by decide +kernel))) rfl
theorem pm_ac_long : Cond.arrayClass .long ∈ pm_ws := pm_ws_of (List.mem_append_right _ (List.mem_of_getElem? (i := 1093) (by decide +kernel))) rfl
theorem pm_i_X6_init : Cond.instanceMethod yX6_init ∈ pm_ws := pm_ws_of (List.mem_append_right _ (List.mem_of_getElem? (i := 20) (by decide +kernel))) rfl
theorem pm_i_X5_init : Cond.instanceMethod yX5_init ∈ pm_ws := pm_ws_of (List.mem_append_right _ (List.mem_of_getElem? (i := 30) (by decide +kernel))) rfl
theorem pm_i_X2_init : Cond.instanceMethod yX2_init ∈ pm_ws := pm_ws_of (List.mem_append_right _ (List.mem_of_getElem? (i := 58) (by decide +kernel))) rfl
theorem pm_i_X3_init : Cond.instanceMethod yX3_init ∈ pm_ws := pm_ws_of (List.mem_append_right _ (List.mem_of_getElem? (i := 72) (by decide +kernel))) rfl
theorem pm_v_X6_out : Cond.instanceMethod yX6_out ∈ pm_ws ∧ Cond.selects yX6_out.cls yX6_out yX6_out ∈ pm_ws := ⟨pm_ws_of (List.mem_append_right _ (List.mem_of_getElem? (i := 134) (by decide +kernel))) rfl, pm_ws_of (List.mem_append_right _ (List.mem_of_getElem? (i := 135) (by decide +kernel))) rfl⟩
theorem pm_v_X2_numberAt : Cond.instanceMethod yX2_numberAt ∈ pm_ws ∧ Cond.selects yX2_numberAt.cls yX2_numberAt yX2_numberAt ∈ pm_ws := ⟨pm_ws_of (List.mem_append_right _ (List.mem_of_getElem? (i := 138) (by decide +kernel))) rfl, pm_ws_of (List.mem_append_right _ (List.mem_of_getElem? (i := 139) (by decide +kernel))) rfl⟩
theorem pm_s_J9_min_7cf53 : Cond.static yJ9_min_7cf53 ∈ pm_ws := pm_ws_of (List.mem_append_right _ (List.mem_of_getElem? (i := 142) (by decide +kernel))) rfl
theorem pm_v_X6_word : Cond.instanceMethod yX6_word ∈ pm_ws ∧ Cond.selects yX6_word.cls yX6_word yX6_word ∈ pm_ws := ⟨pm_ws_of (List.mem_append_right _ (List.mem_of_getElem? (i := 149) (by decide +kernel))) rfl, pm_ws_of (List.mem_append_right _ (List.mem_of_getElem? (i := 150) (by decide +kernel))) rfl⟩
theorem pm_s_X6_isBelow : Cond.static yX6_isBelow ∈ pm_ws := pm_ws_of (List.mem_append_right _ (List.mem_of_getElem? (i := 153) (by decide +kernel))) rfl
theorem pm_v_X6_start : Cond.instanceMethod yX6_start ∈ pm_ws ∧ Cond.selects yX6_start.cls yX6_start yX6_start ∈ pm_ws := ⟨pm_ws_of (List.mem_append_right _ (List.mem_of_getElem? (i := 222) (by decide +kernel))) rfl, pm_ws_of (List.mem_append_right _ (List.mem_of_getElem? (i := 223) (by decide +kernel))) rfl⟩
theorem pm_v_X6_beginProcess : Cond.instanceMethod yX6_beginProcess ∈ pm_ws ∧ Cond.selects yX6_beginProcess.cls yX6_beginProcess yX6_beginProcess ∈ pm_ws := ⟨pm_ws_of (List.mem_append_right _ (List.mem_of_getElem? (i := 242) (by decide +kernel))) rfl, pm_ws_of (List.mem_append_left _ (List.mem_of_getElem? (i := 1) (by decide +kernel))) rfl⟩
theorem pm_i_X1_init : Cond.instanceMethod yX1_init ∈ pm_ws := pm_ws_of (List.mem_append_right _ (List.mem_of_getElem? (i := 246) (by decide +kernel))) rfl
theorem pm_i_X0_init : Cond.instanceMethod yX0_init ∈ pm_ws := pm_ws_of (List.mem_append_right _ (List.mem_of_getElem? (i := 255) (by decide +kernel))) rfl
theorem pm_i_X4_init : Cond.instanceMethod yX4_init ∈ pm_ws := pm_ws_of (List.mem_append_right _ (List.mem_of_getElem? (i := 274) (by decide +kernel))) rfl
theorem pm_v_X6_makeReady : Cond.instanceMethod yX6_makeReady ∈ pm_ws ∧ Cond.selects yX6_makeReady.cls yX6_makeReady yX6_makeReady ∈ pm_ws := ⟨pm_ws_of (List.mem_append_right _ (List.mem_of_getElem? (i := 361) (by decide +kernel))) rfl, pm_ws_of (List.mem_append_left _ (List.mem_of_getElem? (i := 2) (by decide +kernel))) rfl⟩
theorem pm_v_X6_takeLastTurn : Cond.instanceMethod yX6_takeLastTurn ∈ pm_ws ∧ Cond.selects yX6_takeLastTurn.cls yX6_takeLastTurn yX6_takeLastTurn ∈ pm_ws := ⟨pm_ws_of (List.mem_append_right _ (List.mem_of_getElem? (i := 366) (by decide +kernel))) rfl, pm_ws_of (List.mem_append_left _ (List.mem_of_getElem? (i := 3) (by decide +kernel))) rfl⟩
theorem pm_v_X6_send : Cond.instanceMethod yX6_send ∈ pm_ws ∧ Cond.selects yX6_send.cls yX6_send yX6_send ∈ pm_ws := ⟨pm_ws_of (List.mem_append_right _ (List.mem_of_getElem? (i := 372) (by decide +kernel))) rfl, pm_ws_of (List.mem_append_right _ (List.mem_of_getElem? (i := 373) (by decide +kernel))) rfl⟩
theorem pm_v_X6_find : Cond.instanceMethod yX6_find ∈ pm_ws ∧ Cond.selects yX6_find.cls yX6_find yX6_find ∈ pm_ws := ⟨pm_ws_of (List.mem_append_right _ (List.mem_of_getElem? (i := 377) (by decide +kernel))) rfl, pm_ws_of (List.mem_append_left _ (List.mem_of_getElem? (i := 4) (by decide +kernel))) rfl⟩
theorem pm_v_X3_setSingle : Cond.instanceMethod yX3_setSingle ∈ pm_ws ∧ Cond.selects yX3_setSingle.cls yX3_setSingle yX3_setSingle ∈ pm_ws := ⟨pm_ws_of (List.mem_append_right _ (List.mem_of_getElem? (i := 380) (by decide +kernel))) rfl, pm_ws_of (List.mem_append_right _ (List.mem_of_getElem? (i := 381) (by decide +kernel))) rfl⟩
theorem pm_v_X3_addSingle : Cond.instanceMethod yX3_addSingle ∈ pm_ws ∧ Cond.selects yX3_addSingle.cls yX3_addSingle yX3_addSingle ∈ pm_ws := ⟨pm_ws_of (List.mem_append_right _ (List.mem_of_getElem? (i := 385) (by decide +kernel))) rfl, pm_ws_of (List.mem_append_left _ (List.mem_of_getElem? (i := 5) (by decide +kernel))) rfl⟩
theorem pm_v_X6_deliver : Cond.instanceMethod yX6_deliver ∈ pm_ws ∧ Cond.selects yX6_deliver.cls yX6_deliver yX6_deliver ∈ pm_ws := ⟨pm_ws_of (List.mem_append_right _ (List.mem_of_getElem? (i := 389) (by decide +kernel))) rfl, pm_ws_of (List.mem_append_left _ (List.mem_of_getElem? (i := 6) (by decide +kernel))) rfl⟩
theorem pm_v_X0_newRow : Cond.instanceMethod yX0_newRow ∈ pm_ws ∧ Cond.selects yX0_newRow.cls yX0_newRow yX0_newRow ∈ pm_ws := ⟨pm_ws_of (List.mem_append_right _ (List.mem_of_getElem? (i := 392) (by decide +kernel))) rfl, pm_ws_of (List.mem_append_right _ (List.mem_of_getElem? (i := 393) (by decide +kernel))) rfl⟩
theorem pm_v_X3_copy : Cond.instanceMethod yX3_copy ∈ pm_ws ∧ Cond.selects yX3_copy.cls yX3_copy yX3_copy ∈ pm_ws := ⟨pm_ws_of (List.mem_append_right _ (List.mem_of_getElem? (i := 397) (by decide +kernel))) rfl, pm_ws_of (List.mem_append_right _ (List.mem_of_getElem? (i := 398) (by decide +kernel))) rfl⟩
theorem pm_v_X6_run : Cond.instanceMethod yX6_run ∈ pm_ws ∧ Cond.selects yX6_run.cls yX6_run yX6_run ∈ pm_ws := ⟨pm_ws_of (List.mem_append_right _ (List.mem_of_getElem? (i := 407) (by decide +kernel))) rfl, pm_ws_of (List.mem_append_right _ (List.mem_of_getElem? (i := 408) (by decide +kernel))) rfl⟩
theorem pm_v_X6_nextInTurn : Cond.instanceMethod yX6_nextInTurn ∈ pm_ws ∧ Cond.selects yX6_nextInTurn.cls yX6_nextInTurn yX6_nextInTurn ∈ pm_ws := ⟨pm_ws_of (List.mem_append_right _ (List.mem_of_getElem? (i := 412) (by decide +kernel))) rfl, pm_ws_of (List.mem_append_left _ (List.mem_of_getElem? (i := 7) (by decide +kernel))) rfl⟩
theorem pm_v_X1_comesBefore : Cond.instanceMethod yX1_comesBefore ∈ pm_ws ∧ Cond.selects yX1_comesBefore.cls yX1_comesBefore yX1_comesBefore ∈ pm_ws := ⟨pm_ws_of (List.mem_append_right _ (List.mem_of_getElem? (i := 415) (by decide +kernel))) rfl, pm_ws_of (List.mem_append_right _ (List.mem_of_getElem? (i := 416) (by decide +kernel))) rfl⟩
theorem pm_v_X6_doSlice : Cond.instanceMethod yX6_doSlice ∈ pm_ws ∧ Cond.selects yX6_doSlice.cls yX6_doSlice yX6_doSlice ∈ pm_ws := ⟨pm_ws_of (List.mem_append_right _ (List.mem_of_getElem? (i := 420) (by decide +kernel))) rfl, pm_ws_of (List.mem_append_left _ (List.mem_of_getElem? (i := 8) (by decide +kernel))) rfl⟩
theorem pm_s_X6_place : Cond.static yX6_place ∈ pm_ws := pm_ws_of (List.mem_append_right _ (List.mem_of_getElem? (i := 423) (by decide +kernel))) rfl
theorem pm_s_J9_floorMod_7cf53 : Cond.static yJ9_floorMod_7cf53 ∈ pm_ws := pm_ws_of (List.mem_append_right _ (List.mem_of_getElem? (i := 426) (by decide +kernel))) rfl
theorem pm_v_X6_doWord : Cond.instanceMethod yX6_doWord ∈ pm_ws ∧ Cond.selects yX6_doWord.cls yX6_doWord yX6_doWord ∈ pm_ws := ⟨pm_ws_of (List.mem_append_right _ (List.mem_of_getElem? (i := 430) (by decide +kernel))) rfl, pm_ws_of (List.mem_append_left _ (List.mem_of_getElem? (i := 9) (by decide +kernel))) rfl⟩
theorem pm_v_X1_x : Cond.instanceMethod yX1_x ∈ pm_ws ∧ Cond.selects yX1_x.cls yX1_x yX1_x ∈ pm_ws := ⟨pm_ws_of (List.mem_append_right _ (List.mem_of_getElem? (i := 433) (by decide +kernel))) rfl, pm_ws_of (List.mem_append_right _ (List.mem_of_getElem? (i := 434) (by decide +kernel))) rfl⟩
theorem pm_v_X6_end : Cond.instanceMethod yX6_end ∈ pm_ws ∧ Cond.selects yX6_end.cls yX6_end yX6_end ∈ pm_ws := ⟨pm_ws_of (List.mem_append_right _ (List.mem_of_getElem? (i := 439) (by decide +kernel))) rfl, pm_ws_of (List.mem_append_left _ (List.mem_of_getElem? (i := 10) (by decide +kernel))) rfl⟩
theorem pm_v_X6_die : Cond.instanceMethod yX6_die ∈ pm_ws ∧ Cond.selects yX6_die.cls yX6_die yX6_die ∈ pm_ws := ⟨pm_ws_of (List.mem_append_right _ (List.mem_of_getElem? (i := 443) (by decide +kernel))) rfl, pm_ws_of (List.mem_append_left _ (List.mem_of_getElem? (i := 11) (by decide +kernel))) rfl⟩
theorem pm_v_X0_clear : Cond.instanceMethod yX0_clear ∈ pm_ws ∧ Cond.selects yX0_clear.cls yX0_clear yX0_clear ∈ pm_ws := ⟨pm_ws_of (List.mem_append_right _ (List.mem_of_getElem? (i := 446) (by decide +kernel))) rfl, pm_ws_of (List.mem_append_right _ (List.mem_of_getElem? (i := 447) (by decide +kernel))) rfl⟩
theorem pm_v_X4_clear : Cond.instanceMethod yX4_clear ∈ pm_ws ∧ Cond.selects yX4_clear.cls yX4_clear yX4_clear ∈ pm_ws := ⟨pm_ws_of (List.mem_append_right _ (List.mem_of_getElem? (i := 450) (by decide +kernel))) rfl, pm_ws_of (List.mem_append_right _ (List.mem_of_getElem? (i := 451) (by decide +kernel))) rfl⟩
theorem pm_v_X5_dropMadeBy : Cond.instanceMethod yX5_dropMadeBy ∈ pm_ws ∧ Cond.selects yX5_dropMadeBy.cls yX5_dropMadeBy yX5_dropMadeBy ∈ pm_ws := ⟨pm_ws_of (List.mem_append_right _ (List.mem_of_getElem? (i := 454) (by decide +kernel))) rfl, pm_ws_of (List.mem_append_right _ (List.mem_of_getElem? (i := 455) (by decide +kernel))) rfl⟩
theorem pm_v_X5_dropWhere : Cond.instanceMethod yX5_dropWhere ∈ pm_ws ∧ Cond.selects yX5_dropWhere.cls yX5_dropWhere yX5_dropWhere ∈ pm_ws := ⟨pm_ws_of (List.mem_append_right _ (List.mem_of_getElem? (i := 459) (by decide +kernel))) rfl, pm_ws_of (List.mem_append_left _ (List.mem_of_getElem? (i := 12) (by decide +kernel))) rfl⟩
theorem pm_s_X6_give : Cond.static yX6_give ∈ pm_ws := pm_ws_of (List.mem_append_right _ (List.mem_of_getElem? (i := 462) (by decide +kernel))) rfl
theorem pm_s_X6_giveCopy : Cond.static yX6_giveCopy ∈ pm_ws := pm_ws_of (List.mem_append_right _ (List.mem_of_getElem? (i := 465) (by decide +kernel))) rfl
theorem pm_s_X6_areNumbers : Cond.static yX6_areNumbers ∈ pm_ws := pm_ws_of (List.mem_append_right _ (List.mem_of_getElem? (i := 468) (by decide +kernel))) rfl
theorem pm_v_X3_kind : Cond.instanceMethod yX3_kind ∈ pm_ws ∧ Cond.selects yX3_kind.cls yX3_kind yX3_kind ∈ pm_ws := ⟨pm_ws_of (List.mem_append_right _ (List.mem_of_getElem? (i := 471) (by decide +kernel))) rfl, pm_ws_of (List.mem_append_right _ (List.mem_of_getElem? (i := 472) (by decide +kernel))) rfl⟩
theorem pm_s_X3_kindOf : Cond.static yX3_kindOf ∈ pm_ws := pm_ws_of (List.mem_append_right _ (List.mem_of_getElem? (i := 475) (by decide +kernel))) rfl
theorem pm_v_X3_value : Cond.instanceMethod yX3_value ∈ pm_ws ∧ Cond.selects yX3_value.cls yX3_value yX3_value ∈ pm_ws := ⟨pm_ws_of (List.mem_append_right _ (List.mem_of_getElem? (i := 478) (by decide +kernel))) rfl, pm_ws_of (List.mem_append_right _ (List.mem_of_getElem? (i := 479) (by decide +kernel))) rfl⟩
theorem pm_v_X3_setPair : Cond.instanceMethod yX3_setPair ∈ pm_ws ∧ Cond.selects yX3_setPair.cls yX3_setPair yX3_setPair ∈ pm_ws := ⟨pm_ws_of (List.mem_append_right _ (List.mem_of_getElem? (i := 482) (by decide +kernel))) rfl, pm_ws_of (List.mem_append_right _ (List.mem_of_getElem? (i := 483) (by decide +kernel))) rfl⟩
theorem pm_v_X3_setFirst : Cond.instanceMethod yX3_setFirst ∈ pm_ws ∧ Cond.selects yX3_setFirst.cls yX3_setFirst yX3_setFirst ∈ pm_ws := ⟨pm_ws_of (List.mem_append_right _ (List.mem_of_getElem? (i := 486) (by decide +kernel))) rfl, pm_ws_of (List.mem_append_right _ (List.mem_of_getElem? (i := 487) (by decide +kernel))) rfl⟩
theorem pm_v_X3_endOfFirst : Cond.instanceMethod yX3_endOfFirst ∈ pm_ws ∧ Cond.selects yX3_endOfFirst.cls yX3_endOfFirst yX3_endOfFirst ∈ pm_ws := ⟨pm_ws_of (List.mem_append_right _ (List.mem_of_getElem? (i := 492) (by decide +kernel))) rfl, pm_ws_of (List.mem_append_left _ (List.mem_of_getElem? (i := 13) (by decide +kernel))) rfl⟩
theorem pm_v_X3_setPart : Cond.instanceMethod yX3_setPart ∈ pm_ws ∧ Cond.selects yX3_setPart.cls yX3_setPart yX3_setPart ∈ pm_ws := ⟨pm_ws_of (List.mem_append_right _ (List.mem_of_getElem? (i := 496) (by decide +kernel))) rfl, pm_ws_of (List.mem_append_left _ (List.mem_of_getElem? (i := 14) (by decide +kernel))) rfl⟩
theorem pm_v_X3_setSecond : Cond.instanceMethod yX3_setSecond ∈ pm_ws ∧ Cond.selects yX3_setSecond.cls yX3_setSecond yX3_setSecond ∈ pm_ws := ⟨pm_ws_of (List.mem_append_right _ (List.mem_of_getElem? (i := 499) (by decide +kernel))) rfl, pm_ws_of (List.mem_append_right _ (List.mem_of_getElem? (i := 500) (by decide +kernel))) rfl⟩
theorem pm_s_X6_goOn : Cond.static yX6_goOn ∈ pm_ws := pm_ws_of (List.mem_append_right _ (List.mem_of_getElem? (i := 503) (by decide +kernel))) rfl
theorem pm_v_X3_compareWith : Cond.instanceMethod yX3_compareWith ∈ pm_ws ∧ Cond.selects yX3_compareWith.cls yX3_compareWith yX3_compareWith ∈ pm_ws := ⟨pm_ws_of (List.mem_append_right _ (List.mem_of_getElem? (i := 506) (by decide +kernel))) rfl, pm_ws_of (List.mem_append_right _ (List.mem_of_getElem? (i := 507) (by decide +kernel))) rfl⟩
theorem pm_s_X6_callWord : Cond.static yX6_callWord ∈ pm_ws := pm_ws_of (List.mem_append_right _ (List.mem_of_getElem? (i := 511) (by decide +kernel))) rfl
theorem pm_v_X4_addBack : Cond.instanceMethod yX4_addBack ∈ pm_ws ∧ Cond.selects yX4_addBack.cls yX4_addBack yX4_addBack ∈ pm_ws := ⟨pm_ws_of (List.mem_append_right _ (List.mem_of_getElem? (i := 514) (by decide +kernel))) rfl, pm_ws_of (List.mem_append_right _ (List.mem_of_getElem? (i := 515) (by decide +kernel))) rfl⟩
theorem pm_v_X6_comeBack : Cond.instanceMethod yX6_comeBack ∈ pm_ws ∧ Cond.selects yX6_comeBack.cls yX6_comeBack yX6_comeBack ∈ pm_ws := ⟨pm_ws_of (List.mem_append_right _ (List.mem_of_getElem? (i := 519) (by decide +kernel))) rfl, pm_ws_of (List.mem_append_left _ (List.mem_of_getElem? (i := 15) (by decide +kernel))) rfl⟩
theorem pm_v_X4_takeBack : Cond.instanceMethod yX4_takeBack ∈ pm_ws ∧ Cond.selects yX4_takeBack.cls yX4_takeBack yX4_takeBack ∈ pm_ws := ⟨pm_ws_of (List.mem_append_right _ (List.mem_of_getElem? (i := 522) (by decide +kernel))) rfl, pm_ws_of (List.mem_append_right _ (List.mem_of_getElem? (i := 523) (by decide +kernel))) rfl⟩
theorem pm_v_X4_addCatch : Cond.instanceMethod yX4_addCatch ∈ pm_ws ∧ Cond.selects yX4_addCatch.cls yX4_addCatch yX4_addCatch ∈ pm_ws := ⟨pm_ws_of (List.mem_append_right _ (List.mem_of_getElem? (i := 526) (by decide +kernel))) rfl, pm_ws_of (List.mem_append_right _ (List.mem_of_getElem? (i := 527) (by decide +kernel))) rfl⟩
theorem pm_s_X6_dropCatch : Cond.static yX6_dropCatch ∈ pm_ws := pm_ws_of (List.mem_append_right _ (List.mem_of_getElem? (i := 530) (by decide +kernel))) rfl
theorem pm_v_X4_dropCatch : Cond.instanceMethod yX4_dropCatch ∈ pm_ws ∧ Cond.selects yX4_dropCatch.cls yX4_dropCatch yX4_dropCatch ∈ pm_ws := ⟨pm_ws_of (List.mem_append_right _ (List.mem_of_getElem? (i := 533) (by decide +kernel))) rfl, pm_ws_of (List.mem_append_right _ (List.mem_of_getElem? (i := 534) (by decide +kernel))) rfl⟩
theorem pm_v_X6_fail : Cond.instanceMethod yX6_fail ∈ pm_ws ∧ Cond.selects yX6_fail.cls yX6_fail yX6_fail ∈ pm_ws := ⟨pm_ws_of (List.mem_append_right _ (List.mem_of_getElem? (i := 538) (by decide +kernel))) rfl, pm_ws_of (List.mem_append_left _ (List.mem_of_getElem? (i := 16) (by decide +kernel))) rfl⟩
theorem pm_v_X4_takeCatch : Cond.instanceMethod yX4_takeCatch ∈ pm_ws ∧ Cond.selects yX4_takeCatch.cls yX4_takeCatch yX4_takeCatch ∈ pm_ws := ⟨pm_ws_of (List.mem_append_right _ (List.mem_of_getElem? (i := 541) (by decide +kernel))) rfl, pm_ws_of (List.mem_append_right _ (List.mem_of_getElem? (i := 542) (by decide +kernel))) rfl⟩
theorem pm_v_X6_beget : Cond.instanceMethod yX6_beget ∈ pm_ws ∧ Cond.selects yX6_beget.cls yX6_beget yX6_beget ∈ pm_ws := ⟨pm_ws_of (List.mem_append_right _ (List.mem_of_getElem? (i := 547) (by decide +kernel))) rfl, pm_ws_of (List.mem_append_left _ (List.mem_of_getElem? (i := 17) (by decide +kernel))) rfl⟩
theorem pm_v_X1_linkWith : Cond.instanceMethod yX1_linkWith ∈ pm_ws ∧ Cond.selects yX1_linkWith.cls yX1_linkWith yX1_linkWith ∈ pm_ws := ⟨pm_ws_of (List.mem_append_right _ (List.mem_of_getElem? (i := 550) (by decide +kernel))) rfl, pm_ws_of (List.mem_append_right _ (List.mem_of_getElem? (i := 551) (by decide +kernel))) rfl⟩
theorem pm_v_X6_post : Cond.instanceMethod yX6_post ∈ pm_ws ∧ Cond.selects yX6_post.cls yX6_post yX6_post ∈ pm_ws := ⟨pm_ws_of (List.mem_append_right _ (List.mem_of_getElem? (i := 555) (by decide +kernel))) rfl, pm_ws_of (List.mem_append_left _ (List.mem_of_getElem? (i := 18) (by decide +kernel))) rfl⟩
theorem pm_v_X6_findByName : Cond.instanceMethod yX6_findByName ∈ pm_ws ∧ Cond.selects yX6_findByName.cls yX6_findByName yX6_findByName ∈ pm_ws := ⟨pm_ws_of (List.mem_append_right _ (List.mem_of_getElem? (i := 559) (by decide +kernel))) rfl, pm_ws_of (List.mem_append_left _ (List.mem_of_getElem? (i := 19) (by decide +kernel))) rfl⟩
theorem pm_v_X6_findByTerm : Cond.instanceMethod yX6_findByTerm ∈ pm_ws ∧ Cond.selects yX6_findByTerm.cls yX6_findByTerm yX6_findByTerm ∈ pm_ws := ⟨pm_ws_of (List.mem_append_right _ (List.mem_of_getElem? (i := 563) (by decide +kernel))) rfl, pm_ws_of (List.mem_append_left _ (List.mem_of_getElem? (i := 20) (by decide +kernel))) rfl⟩
theorem pm_s_X6_readMail : Cond.static yX6_readMail ∈ pm_ws := pm_ws_of (List.mem_append_right _ (List.mem_of_getElem? (i := 566) (by decide +kernel))) rfl
theorem pm_v_X0_atPointer : Cond.instanceMethod yX0_atPointer ∈ pm_ws ∧ Cond.selects yX0_atPointer.cls yX0_atPointer yX0_atPointer ∈ pm_ws := ⟨pm_ws_of (List.mem_append_right _ (List.mem_of_getElem? (i := 569) (by decide +kernel))) rfl, pm_ws_of (List.mem_append_right _ (List.mem_of_getElem? (i := 570) (by decide +kernel))) rfl⟩
theorem pm_v_X0_rowAt : Cond.instanceMethod yX0_rowAt ∈ pm_ws ∧ Cond.selects yX0_rowAt.cls yX0_rowAt yX0_rowAt ∈ pm_ws := ⟨pm_ws_of (List.mem_append_right _ (List.mem_of_getElem? (i := 573) (by decide +kernel))) rfl, pm_ws_of (List.mem_append_right _ (List.mem_of_getElem? (i := 574) (by decide +kernel))) rfl⟩
theorem pm_s_X6_dropMail : Cond.static yX6_dropMail ∈ pm_ws := pm_ws_of (List.mem_append_right _ (List.mem_of_getElem? (i := 577) (by decide +kernel))) rfl
theorem pm_v_X0_dropAtPointer : Cond.instanceMethod yX0_dropAtPointer ∈ pm_ws ∧ Cond.selects yX0_dropAtPointer.cls yX0_dropAtPointer yX0_dropAtPointer ∈ pm_ws := ⟨pm_ws_of (List.mem_append_right _ (List.mem_of_getElem? (i := 580) (by decide +kernel))) rfl, pm_ws_of (List.mem_append_right _ (List.mem_of_getElem? (i := 581) (by decide +kernel))) rfl⟩
theorem pm_s_X6_advance : Cond.static yX6_advance ∈ pm_ws := pm_ws_of (List.mem_append_right _ (List.mem_of_getElem? (i := 584) (by decide +kernel))) rfl
theorem pm_v_X0_advance : Cond.instanceMethod yX0_advance ∈ pm_ws ∧ Cond.selects yX0_advance.cls yX0_advance yX0_advance ∈ pm_ws := ⟨pm_ws_of (List.mem_append_right _ (List.mem_of_getElem? (i := 587) (by decide +kernel))) rfl, pm_ws_of (List.mem_append_right _ (List.mem_of_getElem? (i := 588) (by decide +kernel))) rfl⟩
theorem pm_s_X6_await : Cond.static yX6_await ∈ pm_ws := pm_ws_of (List.mem_append_right _ (List.mem_of_getElem? (i := 591) (by decide +kernel))) rfl
theorem pm_v_X1_beginToWait : Cond.instanceMethod yX1_beginToWait ∈ pm_ws ∧ Cond.selects yX1_beginToWait.cls yX1_beginToWait yX1_beginToWait ∈ pm_ws := ⟨pm_ws_of (List.mem_append_right _ (List.mem_of_getElem? (i := 594) (by decide +kernel))) rfl, pm_ws_of (List.mem_append_right _ (List.mem_of_getElem? (i := 595) (by decide +kernel))) rfl⟩
theorem pm_v_X6_awaitFor : Cond.instanceMethod yX6_awaitFor ∈ pm_ws ∧ Cond.selects yX6_awaitFor.cls yX6_awaitFor yX6_awaitFor ∈ pm_ws := ⟨pm_ws_of (List.mem_append_right _ (List.mem_of_getElem? (i := 599) (by decide +kernel))) rfl, pm_ws_of (List.mem_append_left _ (List.mem_of_getElem? (i := 21) (by decide +kernel))) rfl⟩
theorem pm_v_X0_pointToFirst : Cond.instanceMethod yX0_pointToFirst ∈ pm_ws ∧ Cond.selects yX0_pointToFirst.cls yX0_pointToFirst yX0_pointToFirst ∈ pm_ws := ⟨pm_ws_of (List.mem_append_right _ (List.mem_of_getElem? (i := 602) (by decide +kernel))) rfl, pm_ws_of (List.mem_append_right _ (List.mem_of_getElem? (i := 603) (by decide +kernel))) rfl⟩
theorem pm_v_X6_link : Cond.instanceMethod yX6_link ∈ pm_ws ∧ Cond.selects yX6_link.cls yX6_link yX6_link ∈ pm_ws := ⟨pm_ws_of (List.mem_append_right _ (List.mem_of_getElem? (i := 607) (by decide +kernel))) rfl, pm_ws_of (List.mem_append_left _ (List.mem_of_getElem? (i := 22) (by decide +kernel))) rfl⟩
theorem pm_v_X6_getExit : Cond.instanceMethod yX6_getExit ∈ pm_ws ∧ Cond.selects yX6_getExit.cls yX6_getExit yX6_getExit ∈ pm_ws := ⟨pm_ws_of (List.mem_append_right _ (List.mem_of_getElem? (i := 611) (by decide +kernel))) rfl, pm_ws_of (List.mem_append_left _ (List.mem_of_getElem? (i := 23) (by decide +kernel))) rfl⟩
theorem pm_v_X3_isAtom : Cond.instanceMethod yX3_isAtom ∈ pm_ws ∧ Cond.selects yX3_isAtom.cls yX3_isAtom yX3_isAtom ∈ pm_ws := ⟨pm_ws_of (List.mem_append_right _ (List.mem_of_getElem? (i := 614) (by decide +kernel))) rfl, pm_ws_of (List.mem_append_right _ (List.mem_of_getElem? (i := 615) (by decide +kernel))) rfl⟩
theorem pm_v_X3_setExit : Cond.instanceMethod yX3_setExit ∈ pm_ws ∧ Cond.selects yX3_setExit.cls yX3_setExit yX3_setExit ∈ pm_ws := ⟨pm_ws_of (List.mem_append_right _ (List.mem_of_getElem? (i := 618) (by decide +kernel))) rfl, pm_ws_of (List.mem_append_right _ (List.mem_of_getElem? (i := 619) (by decide +kernel))) rfl⟩
theorem pm_v_X3_addPairSign : Cond.instanceMethod yX3_addPairSign ∈ pm_ws ∧ Cond.selects yX3_addPairSign.cls yX3_addPairSign yX3_addPairSign ∈ pm_ws := ⟨pm_ws_of (List.mem_append_right _ (List.mem_of_getElem? (i := 623) (by decide +kernel))) rfl, pm_ws_of (List.mem_append_left _ (List.mem_of_getElem? (i := 24) (by decide +kernel))) rfl⟩
theorem pm_v_X3_addReason : Cond.instanceMethod yX3_addReason ∈ pm_ws ∧ Cond.selects yX3_addReason.cls yX3_addReason yX3_addReason ∈ pm_ws := ⟨pm_ws_of (List.mem_append_right _ (List.mem_of_getElem? (i := 627) (by decide +kernel))) rfl, pm_ws_of (List.mem_append_left _ (List.mem_of_getElem? (i := 25) (by decide +kernel))) rfl⟩
theorem pm_s_X6_unlink : Cond.static yX6_unlink ∈ pm_ws := pm_ws_of (List.mem_append_right _ (List.mem_of_getElem? (i := 630) (by decide +kernel))) rfl
theorem pm_v_X1_unlinkFrom : Cond.instanceMethod yX1_unlinkFrom ∈ pm_ws ∧ Cond.selects yX1_unlinkFrom.cls yX1_unlinkFrom yX1_unlinkFrom ∈ pm_ws := ⟨pm_ws_of (List.mem_append_right _ (List.mem_of_getElem? (i := 633) (by decide +kernel))) rfl, pm_ws_of (List.mem_append_right _ (List.mem_of_getElem? (i := 634) (by decide +kernel))) rfl⟩
theorem pm_v_X6_watch : Cond.instanceMethod yX6_watch ∈ pm_ws ∧ Cond.selects yX6_watch.cls yX6_watch yX6_watch ∈ pm_ws := ⟨pm_ws_of (List.mem_append_right _ (List.mem_of_getElem? (i := 639) (by decide +kernel))) rfl, pm_ws_of (List.mem_append_left _ (List.mem_of_getElem? (i := 26) (by decide +kernel))) rfl⟩
theorem pm_v_X5_isFull : Cond.instanceMethod yX5_isFull ∈ pm_ws ∧ Cond.selects yX5_isFull.cls yX5_isFull yX5_isFull ∈ pm_ws := ⟨pm_ws_of (List.mem_append_right _ (List.mem_of_getElem? (i := 642) (by decide +kernel))) rfl, pm_ws_of (List.mem_append_right _ (List.mem_of_getElem? (i := 643) (by decide +kernel))) rfl⟩
theorem pm_v_X5_nextNumber : Cond.instanceMethod yX5_nextNumber ∈ pm_ws ∧ Cond.selects yX5_nextNumber.cls yX5_nextNumber yX5_nextNumber ∈ pm_ws := ⟨pm_ws_of (List.mem_append_right _ (List.mem_of_getElem? (i := 646) (by decide +kernel))) rfl, pm_ws_of (List.mem_append_right _ (List.mem_of_getElem? (i := 647) (by decide +kernel))) rfl⟩
theorem pm_v_X3_setDown : Cond.instanceMethod yX3_setDown ∈ pm_ws ∧ Cond.selects yX3_setDown.cls yX3_setDown yX3_setDown ∈ pm_ws := ⟨pm_ws_of (List.mem_append_right _ (List.mem_of_getElem? (i := 650) (by decide +kernel))) rfl, pm_ws_of (List.mem_append_right _ (List.mem_of_getElem? (i := 651) (by decide +kernel))) rfl⟩
theorem pm_v_X5_add : Cond.instanceMethod yX5_add ∈ pm_ws ∧ Cond.selects yX5_add.cls yX5_add yX5_add ∈ pm_ws := ⟨pm_ws_of (List.mem_append_right _ (List.mem_of_getElem? (i := 654) (by decide +kernel))) rfl, pm_ws_of (List.mem_append_right _ (List.mem_of_getElem? (i := 655) (by decide +kernel))) rfl⟩
theorem pm_v_X6_exit : Cond.instanceMethod yX6_exit ∈ pm_ws ∧ Cond.selects yX6_exit.cls yX6_exit yX6_exit ∈ pm_ws := ⟨pm_ws_of (List.mem_append_right _ (List.mem_of_getElem? (i := 660) (by decide +kernel))) rfl, pm_ws_of (List.mem_append_left _ (List.mem_of_getElem? (i := 27) (by decide +kernel))) rfl⟩
theorem pm_s_X6_trap : Cond.static yX6_trap ∈ pm_ws := pm_ws_of (List.mem_append_right _ (List.mem_of_getElem? (i := 663) (by decide +kernel))) rfl
theorem pm_v_X6_takeName : Cond.instanceMethod yX6_takeName ∈ pm_ws ∧ Cond.selects yX6_takeName.cls yX6_takeName yX6_takeName ∈ pm_ws := ⟨pm_ws_of (List.mem_append_right _ (List.mem_of_getElem? (i := 667) (by decide +kernel))) rfl, pm_ws_of (List.mem_append_left _ (List.mem_of_getElem? (i := 28) (by decide +kernel))) rfl⟩
theorem pm_s_X6_lookUp : Cond.static yX6_lookUp ∈ pm_ws := pm_ws_of (List.mem_append_right _ (List.mem_of_getElem? (i := 670) (by decide +kernel))) rfl
theorem pm_v_X6_print : Cond.instanceMethod yX6_print ∈ pm_ws ∧ Cond.selects yX6_print.cls yX6_print yX6_print ∈ pm_ws := ⟨pm_ws_of (List.mem_append_right _ (List.mem_of_getElem? (i := 674) (by decide +kernel))) rfl, pm_ws_of (List.mem_append_left _ (List.mem_of_getElem? (i := 29) (by decide +kernel))) rfl⟩
theorem pm_v_X2_print : Cond.instanceMethod yX2_print ∈ pm_ws ∧ Cond.selects yX2_print.cls yX2_print yX2_print ∈ pm_ws := ⟨pm_ws_of (List.mem_append_right _ (List.mem_of_getElem? (i := 677) (by decide +kernel))) rfl, pm_ws_of (List.mem_append_right _ (List.mem_of_getElem? (i := 678) (by decide +kernel))) rfl⟩
theorem pm_v_X6_spreadDeaths : Cond.instanceMethod yX6_spreadDeaths ∈ pm_ws ∧ Cond.selects yX6_spreadDeaths.cls yX6_spreadDeaths yX6_spreadDeaths ∈ pm_ws := ⟨pm_ws_of (List.mem_append_right _ (List.mem_of_getElem? (i := 682) (by decide +kernel))) rfl, pm_ws_of (List.mem_append_left _ (List.mem_of_getElem? (i := 30) (by decide +kernel))) rfl⟩
theorem pm_v_X6_tellLinked : Cond.instanceMethod yX6_tellLinked ∈ pm_ws ∧ Cond.selects yX6_tellLinked.cls yX6_tellLinked yX6_tellLinked ∈ pm_ws := ⟨pm_ws_of (List.mem_append_right _ (List.mem_of_getElem? (i := 686) (by decide +kernel))) rfl, pm_ws_of (List.mem_append_left _ (List.mem_of_getElem? (i := 31) (by decide +kernel))) rfl⟩
theorem pm_v_X1_isLinkedWith : Cond.instanceMethod yX1_isLinkedWith ∈ pm_ws ∧ Cond.selects yX1_isLinkedWith.cls yX1_isLinkedWith yX1_isLinkedWith ∈ pm_ws := ⟨pm_ws_of (List.mem_append_right _ (List.mem_of_getElem? (i := 689) (by decide +kernel))) rfl, pm_ws_of (List.mem_append_right _ (List.mem_of_getElem? (i := 690) (by decide +kernel))) rfl⟩
theorem pm_v_X6_tellWatchers : Cond.instanceMethod yX6_tellWatchers ∈ pm_ws ∧ Cond.selects yX6_tellWatchers.cls yX6_tellWatchers yX6_tellWatchers ∈ pm_ws := ⟨pm_ws_of (List.mem_append_right _ (List.mem_of_getElem? (i := 694) (by decide +kernel))) rfl, pm_ws_of (List.mem_append_left _ (List.mem_of_getElem? (i := 32) (by decide +kernel))) rfl⟩
theorem pm_v_X5_dropThoseOf : Cond.instanceMethod yX5_dropThoseOf ∈ pm_ws ∧ Cond.selects yX5_dropThoseOf.cls yX5_dropThoseOf yX5_dropThoseOf ∈ pm_ws := ⟨pm_ws_of (List.mem_append_right _ (List.mem_of_getElem? (i := 697) (by decide +kernel))) rfl, pm_ws_of (List.mem_append_right _ (List.mem_of_getElem? (i := 698) (by decide +kernel))) rfl⟩
theorem pm_v_X6_pass : Cond.instanceMethod yX6_pass ∈ pm_ws ∧ Cond.selects yX6_pass.cls yX6_pass yX6_pass ∈ pm_ws := ⟨pm_ws_of (List.mem_append_right _ (List.mem_of_getElem? (i := 704) (by decide +kernel))) rfl, pm_ws_of (List.mem_append_right _ (List.mem_of_getElem? (i := 705) (by decide +kernel))) rfl⟩
theorem pm_v_X6_firstDue : Cond.instanceMethod yX6_firstDue ∈ pm_ws ∧ Cond.selects yX6_firstDue.cls yX6_firstDue yX6_firstDue ∈ pm_ws := ⟨pm_ws_of (List.mem_append_right _ (List.mem_of_getElem? (i := 709) (by decide +kernel))) rfl, pm_ws_of (List.mem_append_left _ (List.mem_of_getElem? (i := 33) (by decide +kernel))) rfl⟩
theorem pm_v_X6_process : Cond.instanceMethod yX6_process ∈ pm_ws ∧ Cond.selects yX6_process.cls yX6_process yX6_process ∈ pm_ws := ⟨pm_ws_of (List.mem_append_right _ (List.mem_of_getElem? (i := 715) (by decide +kernel))) rfl, pm_ws_of (List.mem_append_right _ (List.mem_of_getElem? (i := 716) (by decide +kernel))) rfl⟩
theorem pm_v_X1_fact : Cond.instanceMethod yX1_fact ∈ pm_ws ∧ Cond.selects yX1_fact.cls yX1_fact yX1_fact ∈ pm_ws := ⟨pm_ws_of (List.mem_append_right _ (List.mem_of_getElem? (i := 719) (by decide +kernel))) rfl, pm_ws_of (List.mem_append_right _ (List.mem_of_getElem? (i := 720) (by decide +kernel))) rfl⟩
theorem pm_s_J13_bitCount_95d88 : Cond.static yJ13_bitCount_95d88 ∈ pm_ws := pm_ws_of (List.mem_append_right _ (List.mem_of_getElem? (i := 723) (by decide +kernel))) rfl
theorem pm_v_X6_register : Cond.instanceMethod yX6_register ∈ pm_ws ∧ Cond.selects yX6_register.cls yX6_register yX6_register ∈ pm_ws := ⟨pm_ws_of (List.mem_append_right _ (List.mem_of_getElem? (i := 732) (by decide +kernel))) rfl, pm_ws_of (List.mem_append_right _ (List.mem_of_getElem? (i := 733) (by decide +kernel))) rfl⟩
theorem pm_v_X3_numberAt : Cond.instanceMethod yX3_numberAt ∈ pm_ws ∧ Cond.selects yX3_numberAt.cls yX3_numberAt yX3_numberAt ∈ pm_ws := ⟨pm_ws_of (List.mem_append_right _ (List.mem_of_getElem? (i := 736) (by decide +kernel))) rfl, pm_ws_of (List.mem_append_right _ (List.mem_of_getElem? (i := 737) (by decide +kernel))) rfl⟩
theorem pm_v_X6_message : Cond.instanceMethod yX6_message ∈ pm_ws ∧ Cond.selects yX6_message.cls yX6_message yX6_message ∈ pm_ws := ⟨pm_ws_of (List.mem_append_right _ (List.mem_of_getElem? (i := 743) (by decide +kernel))) rfl, pm_ws_of (List.mem_append_right _ (List.mem_of_getElem? (i := 744) (by decide +kernel))) rfl⟩
theorem pm_v_X6_total : Cond.instanceMethod yX6_total ∈ pm_ws ∧ Cond.selects yX6_total.cls yX6_total yX6_total ∈ pm_ws := ⟨pm_ws_of (List.mem_append_right _ (List.mem_of_getElem? (i := 751) (by decide +kernel))) rfl, pm_ws_of (List.mem_append_right _ (List.mem_of_getElem? (i := 752) (by decide +kernel))) rfl⟩
theorem pm_v_X6_readyOnes : Cond.instanceMethod yX6_readyOnes ∈ pm_ws ∧ Cond.selects yX6_readyOnes.cls yX6_readyOnes yX6_readyOnes ∈ pm_ws := ⟨pm_ws_of (List.mem_append_right _ (List.mem_of_getElem? (i := 756) (by decide +kernel))) rfl, pm_ws_of (List.mem_append_left _ (List.mem_of_getElem? (i := 34) (by decide +kernel))) rfl⟩
theorem pm_i_X7_init : Cond.instanceMethod yX7_init ∈ pm_ws := pm_ws_of (List.mem_append_right _ (List.mem_of_getElem? (i := 761) (by decide +kernel))) rfl
theorem pm_v_X7_thrown : Cond.instanceMethod yX7_thrown ∈ pm_ws ∧ Cond.selects yX7_thrown.cls yX7_thrown yX7_thrown ∈ pm_ws := ⟨pm_ws_of (List.mem_append_right _ (List.mem_of_getElem? (i := 891) (by decide +kernel))) rfl, pm_ws_of (List.mem_append_right _ (List.mem_of_getElem? (i := 892) (by decide +kernel))) rfl⟩
theorem pm_v_X7_word : Cond.instanceMethod yX7_word ∈ pm_ws ∧ Cond.selects yX7_word.cls yX7_word yX7_word ∈ pm_ws := ⟨pm_ws_of (List.mem_append_right _ (List.mem_of_getElem? (i := 895) (by decide +kernel))) rfl, pm_ws_of (List.mem_append_right _ (List.mem_of_getElem? (i := 896) (by decide +kernel))) rfl⟩
theorem pm_s_X7_within : Cond.static yX7_within ∈ pm_ws := pm_ws_of (List.mem_append_right _ (List.mem_of_getElem? (i := 899) (by decide +kernel))) rfl
theorem pm_v_X7_fails : Cond.instanceMethod yX7_fails ∈ pm_ws ∧ Cond.selects yX7_fails.cls yX7_fails yX7_fails ∈ pm_ws := ⟨pm_ws_of (List.mem_append_right _ (List.mem_of_getElem? (i := 903) (by decide +kernel))) rfl, pm_ws_of (List.mem_append_left _ (List.mem_of_getElem? (i := 35) (by decide +kernel))) rfl⟩
theorem pm_v_X7_start : Cond.instanceMethod yX7_start ∈ pm_ws ∧ Cond.selects yX7_start.cls yX7_start yX7_start ∈ pm_ws := ⟨pm_ws_of (List.mem_append_right _ (List.mem_of_getElem? (i := 906) (by decide +kernel))) rfl, pm_ws_of (List.mem_append_right _ (List.mem_of_getElem? (i := 907) (by decide +kernel))) rfl⟩
theorem pm_v_X7_create : Cond.instanceMethod yX7_create ∈ pm_ws ∧ Cond.selects yX7_create.cls yX7_create yX7_create ∈ pm_ws := ⟨pm_ws_of (List.mem_append_right _ (List.mem_of_getElem? (i := 911) (by decide +kernel))) rfl, pm_ws_of (List.mem_append_left _ (List.mem_of_getElem? (i := 36) (by decide +kernel))) rfl⟩
theorem pm_v_X7_set : Cond.instanceMethod yX7_set ∈ pm_ws ∧ Cond.selects yX7_set.cls yX7_set yX7_set ∈ pm_ws := ⟨pm_ws_of (List.mem_append_right _ (List.mem_of_getElem? (i := 915) (by decide +kernel))) rfl, pm_ws_of (List.mem_append_left _ (List.mem_of_getElem? (i := 37) (by decide +kernel))) rfl⟩
theorem pm_v_X7_becomesReady : Cond.instanceMethod yX7_becomesReady ∈ pm_ws ∧ Cond.selects yX7_becomesReady.cls yX7_becomesReady yX7_becomesReady ∈ pm_ws := ⟨pm_ws_of (List.mem_append_right _ (List.mem_of_getElem? (i := 919) (by decide +kernel))) rfl, pm_ws_of (List.mem_append_left _ (List.mem_of_getElem? (i := 38) (by decide +kernel))) rfl⟩
theorem pm_v_X7_send : Cond.instanceMethod yX7_send ∈ pm_ws ∧ Cond.selects yX7_send.cls yX7_send yX7_send ∈ pm_ws := ⟨pm_ws_of (List.mem_append_right _ (List.mem_of_getElem? (i := 922) (by decide +kernel))) rfl, pm_ws_of (List.mem_append_right _ (List.mem_of_getElem? (i := 923) (by decide +kernel))) rfl⟩
theorem pm_v_X7_isProcess : Cond.instanceMethod yX7_isProcess ∈ pm_ws ∧ Cond.selects yX7_isProcess.cls yX7_isProcess yX7_isProcess ∈ pm_ws := ⟨pm_ws_of (List.mem_append_right _ (List.mem_of_getElem? (i := 927) (by decide +kernel))) rfl, pm_ws_of (List.mem_append_left _ (List.mem_of_getElem? (i := 39) (by decide +kernel))) rfl⟩
theorem pm_v_X7_comes : Cond.instanceMethod yX7_comes ∈ pm_ws ∧ Cond.selects yX7_comes.cls yX7_comes yX7_comes ∈ pm_ws := ⟨pm_ws_of (List.mem_append_right _ (List.mem_of_getElem? (i := 931) (by decide +kernel))) rfl, pm_ws_of (List.mem_append_left _ (List.mem_of_getElem? (i := 40) (by decide +kernel))) rfl⟩
theorem pm_v_X7_copy : Cond.instanceMethod yX7_copy ∈ pm_ws ∧ Cond.selects yX7_copy.cls yX7_copy yX7_copy ∈ pm_ws := ⟨pm_ws_of (List.mem_append_right _ (List.mem_of_getElem? (i := 935) (by decide +kernel))) rfl, pm_ws_of (List.mem_append_left _ (List.mem_of_getElem? (i := 41) (by decide +kernel))) rfl⟩
theorem pm_v_X7_run : Cond.instanceMethod yX7_run ∈ pm_ws ∧ Cond.selects yX7_run.cls yX7_run yX7_run ∈ pm_ws := ⟨pm_ws_of (List.mem_append_right _ (List.mem_of_getElem? (i := 938) (by decide +kernel))) rfl, pm_ws_of (List.mem_append_right _ (List.mem_of_getElem? (i := 939) (by decide +kernel))) rfl⟩
theorem pm_v_X7_nextReady : Cond.instanceMethod yX7_nextReady ∈ pm_ws ∧ Cond.selects yX7_nextReady.cls yX7_nextReady yX7_nextReady ∈ pm_ws := ⟨pm_ws_of (List.mem_append_right _ (List.mem_of_getElem? (i := 943) (by decide +kernel))) rfl, pm_ws_of (List.mem_append_left _ (List.mem_of_getElem? (i := 42) (by decide +kernel))) rfl⟩
theorem pm_v_X7_step : Cond.instanceMethod yX7_step ∈ pm_ws ∧ Cond.selects yX7_step.cls yX7_step yX7_step ∈ pm_ws := ⟨pm_ws_of (List.mem_append_right _ (List.mem_of_getElem? (i := 947) (by decide +kernel))) rfl, pm_ws_of (List.mem_append_left _ (List.mem_of_getElem? (i := 43) (by decide +kernel))) rfl⟩
theorem pm_s_X7_registerOf : Cond.static yX7_registerOf ∈ pm_ws := pm_ws_of (List.mem_append_right _ (List.mem_of_getElem? (i := 950) (by decide +kernel))) rfl
theorem pm_s_X7_mod : Cond.static yX7_mod ∈ pm_ws := pm_ws_of (List.mem_append_right _ (List.mem_of_getElem? (i := 953) (by decide +kernel))) rfl
theorem pm_v_X7_simple : Cond.instanceMethod yX7_simple ∈ pm_ws ∧ Cond.selects yX7_simple.cls yX7_simple yX7_simple ∈ pm_ws := ⟨pm_ws_of (List.mem_append_right _ (List.mem_of_getElem? (i := 957) (by decide +kernel))) rfl, pm_ws_of (List.mem_append_left _ (List.mem_of_getElem? (i := 44) (by decide +kernel))) rfl⟩
theorem pm_v_X7_endsBy : Cond.instanceMethod yX7_endsBy ∈ pm_ws ∧ Cond.selects yX7_endsBy.cls yX7_endsBy yX7_endsBy ∈ pm_ws := ⟨pm_ws_of (List.mem_append_right _ (List.mem_of_getElem? (i := 961) (by decide +kernel))) rfl, pm_ws_of (List.mem_append_left _ (List.mem_of_getElem? (i := 45) (by decide +kernel))) rfl⟩
theorem pm_v_X7_dies : Cond.instanceMethod yX7_dies ∈ pm_ws ∧ Cond.selects yX7_dies.cls yX7_dies yX7_dies ∈ pm_ws := ⟨pm_ws_of (List.mem_append_right _ (List.mem_of_getElem? (i := 965) (by decide +kernel))) rfl, pm_ws_of (List.mem_append_left _ (List.mem_of_getElem? (i := 46) (by decide +kernel))) rfl⟩
theorem pm_v_X7_dropWatch : Cond.instanceMethod yX7_dropWatch ∈ pm_ws ∧ Cond.selects yX7_dropWatch.cls yX7_dropWatch yX7_dropWatch ∈ pm_ws := ⟨pm_ws_of (List.mem_append_right _ (List.mem_of_getElem? (i := 969) (by decide +kernel))) rfl, pm_ws_of (List.mem_append_left _ (List.mem_of_getElem? (i := 47) (by decide +kernel))) rfl⟩
theorem pm_v_X7_reckons : Cond.instanceMethod yX7_reckons ∈ pm_ws ∧ Cond.selects yX7_reckons.cls yX7_reckons yX7_reckons ∈ pm_ws := ⟨pm_ws_of (List.mem_append_right _ (List.mem_of_getElem? (i := 973) (by decide +kernel))) rfl, pm_ws_of (List.mem_append_left _ (List.mem_of_getElem? (i := 48) (by decide +kernel))) rfl⟩
theorem pm_v_X7_is : Cond.instanceMethod yX7_is ∈ pm_ws ∧ Cond.selects yX7_is.cls yX7_is yX7_is ∈ pm_ws := ⟨pm_ws_of (List.mem_append_right _ (List.mem_of_getElem? (i := 977) (by decide +kernel))) rfl, pm_ws_of (List.mem_append_left _ (List.mem_of_getElem? (i := 49) (by decide +kernel))) rfl⟩
theorem pm_v_X7_kindOf : Cond.instanceMethod yX7_kindOf ∈ pm_ws ∧ Cond.selects yX7_kindOf.cls yX7_kindOf yX7_kindOf ∈ pm_ws := ⟨pm_ws_of (List.mem_append_right _ (List.mem_of_getElem? (i := 981) (by decide +kernel))) rfl, pm_ws_of (List.mem_append_left _ (List.mem_of_getElem? (i := 50) (by decide +kernel))) rfl⟩
theorem pm_v_X7_bad : Cond.instanceMethod yX7_bad ∈ pm_ws ∧ Cond.selects yX7_bad.cls yX7_bad yX7_bad ∈ pm_ws := ⟨pm_ws_of (List.mem_append_right _ (List.mem_of_getElem? (i := 985) (by decide +kernel))) rfl, pm_ws_of (List.mem_append_left _ (List.mem_of_getElem? (i := 51) (by decide +kernel))) rfl⟩
theorem pm_v_X7_failsWith : Cond.instanceMethod yX7_failsWith ∈ pm_ws ∧ Cond.selects yX7_failsWith.cls yX7_failsWith yX7_failsWith ∈ pm_ws := ⟨pm_ws_of (List.mem_append_right _ (List.mem_of_getElem? (i := 989) (by decide +kernel))) rfl, pm_ws_of (List.mem_append_left _ (List.mem_of_getElem? (i := 52) (by decide +kernel))) rfl⟩
theorem pm_v_X7_failsOf : Cond.instanceMethod yX7_failsOf ∈ pm_ws ∧ Cond.selects yX7_failsOf.cls yX7_failsOf yX7_failsOf ∈ pm_ws := ⟨pm_ws_of (List.mem_append_right _ (List.mem_of_getElem? (i := 993) (by decide +kernel))) rfl, pm_ws_of (List.mem_append_left _ (List.mem_of_getElem? (i := 53) (by decide +kernel))) rfl⟩
theorem pm_v_X7_valueOf : Cond.instanceMethod yX7_valueOf ∈ pm_ws ∧ Cond.selects yX7_valueOf.cls yX7_valueOf yX7_valueOf ∈ pm_ws := ⟨pm_ws_of (List.mem_append_right _ (List.mem_of_getElem? (i := 997) (by decide +kernel))) rfl, pm_ws_of (List.mem_append_left _ (List.mem_of_getElem? (i := 54) (by decide +kernel))) rfl⟩
theorem pm_v_X7_ends : Cond.instanceMethod yX7_ends ∈ pm_ws ∧ Cond.selects yX7_ends.cls yX7_ends yX7_ends ∈ pm_ws := ⟨pm_ws_of (List.mem_append_right _ (List.mem_of_getElem? (i := 1001) (by decide +kernel))) rfl, pm_ws_of (List.mem_append_left _ (List.mem_of_getElem? (i := 55) (by decide +kernel))) rfl⟩
theorem pm_v_X7_pair : Cond.instanceMethod yX7_pair ∈ pm_ws ∧ Cond.selects yX7_pair.cls yX7_pair yX7_pair ∈ pm_ws := ⟨pm_ws_of (List.mem_append_right _ (List.mem_of_getElem? (i := 1005) (by decide +kernel))) rfl, pm_ws_of (List.mem_append_left _ (List.mem_of_getElem? (i := 56) (by decide +kernel))) rfl⟩
theorem pm_v_X7_behind : Cond.instanceMethod yX7_behind ∈ pm_ws ∧ Cond.selects yX7_behind.cls yX7_behind yX7_behind ∈ pm_ws := ⟨pm_ws_of (List.mem_append_right _ (List.mem_of_getElem? (i := 1009) (by decide +kernel))) rfl, pm_ws_of (List.mem_append_left _ (List.mem_of_getElem? (i := 57) (by decide +kernel))) rfl⟩
theorem pm_v_X7_part : Cond.instanceMethod yX7_part ∈ pm_ws ∧ Cond.selects yX7_part.cls yX7_part yX7_part ∈ pm_ws := ⟨pm_ws_of (List.mem_append_right _ (List.mem_of_getElem? (i := 1013) (by decide +kernel))) rfl, pm_ws_of (List.mem_append_left _ (List.mem_of_getElem? (i := 58) (by decide +kernel))) rfl⟩
theorem pm_v_X7_compare : Cond.instanceMethod yX7_compare ∈ pm_ws ∧ Cond.selects yX7_compare.cls yX7_compare yX7_compare ∈ pm_ws := ⟨pm_ws_of (List.mem_append_right _ (List.mem_of_getElem? (i := 1017) (by decide +kernel))) rfl, pm_ws_of (List.mem_append_left _ (List.mem_of_getElem? (i := 59) (by decide +kernel))) rfl⟩
theorem pm_v_X7_calls : Cond.instanceMethod yX7_calls ∈ pm_ws ∧ Cond.selects yX7_calls.cls yX7_calls yX7_calls ∈ pm_ws := ⟨pm_ws_of (List.mem_append_right _ (List.mem_of_getElem? (i := 1021) (by decide +kernel))) rfl, pm_ws_of (List.mem_append_left _ (List.mem_of_getElem? (i := 60) (by decide +kernel))) rfl⟩
theorem pm_v_X7_link : Cond.instanceMethod yX7_link ∈ pm_ws ∧ Cond.selects yX7_link.cls yX7_link yX7_link ∈ pm_ws := ⟨pm_ws_of (List.mem_append_right _ (List.mem_of_getElem? (i := 1025) (by decide +kernel))) rfl, pm_ws_of (List.mem_append_left _ (List.mem_of_getElem? (i := 61) (by decide +kernel))) rfl⟩
theorem pm_v_X7_mails : Cond.instanceMethod yX7_mails ∈ pm_ws ∧ Cond.selects yX7_mails.cls yX7_mails yX7_mails ∈ pm_ws := ⟨pm_ws_of (List.mem_append_right _ (List.mem_of_getElem? (i := 1029) (by decide +kernel))) rfl, pm_ws_of (List.mem_append_left _ (List.mem_of_getElem? (i := 62) (by decide +kernel))) rfl⟩
theorem pm_v_X7_withName : Cond.instanceMethod yX7_withName ∈ pm_ws ∧ Cond.selects yX7_withName.cls yX7_withName yX7_withName ∈ pm_ws := ⟨pm_ws_of (List.mem_append_right _ (List.mem_of_getElem? (i := 1033) (by decide +kernel))) rfl, pm_ws_of (List.mem_append_left _ (List.mem_of_getElem? (i := 63) (by decide +kernel))) rfl⟩
theorem pm_v_X7_waits : Cond.instanceMethod yX7_waits ∈ pm_ws ∧ Cond.selects yX7_waits.cls yX7_waits yX7_waits ∈ pm_ws := ⟨pm_ws_of (List.mem_append_right _ (List.mem_of_getElem? (i := 1037) (by decide +kernel))) rfl, pm_ws_of (List.mem_append_left _ (List.mem_of_getElem? (i := 64) (by decide +kernel))) rfl⟩
theorem pm_v_X7_others : Cond.instanceMethod yX7_others ∈ pm_ws ∧ Cond.selects yX7_others.cls yX7_others yX7_others ∈ pm_ws := ⟨pm_ws_of (List.mem_append_right _ (List.mem_of_getElem? (i := 1043) (by decide +kernel))) rfl, pm_ws_of (List.mem_append_left _ (List.mem_of_getElem? (i := 65) (by decide +kernel))) rfl⟩
theorem pm_v_X7_exit : Cond.instanceMethod yX7_exit ∈ pm_ws ∧ Cond.selects yX7_exit.cls yX7_exit yX7_exit ∈ pm_ws := ⟨pm_ws_of (List.mem_append_right _ (List.mem_of_getElem? (i := 1047) (by decide +kernel))) rfl, pm_ws_of (List.mem_append_left _ (List.mem_of_getElem? (i := 66) (by decide +kernel))) rfl⟩
theorem pm_v_X7_isAtom : Cond.instanceMethod yX7_isAtom ∈ pm_ws ∧ Cond.selects yX7_isAtom.cls yX7_isAtom yX7_isAtom ∈ pm_ws := ⟨pm_ws_of (List.mem_append_right _ (List.mem_of_getElem? (i := 1051) (by decide +kernel))) rfl, pm_ws_of (List.mem_append_left _ (List.mem_of_getElem? (i := 67) (by decide +kernel))) rfl⟩
theorem pm_v_X7_tells : Cond.instanceMethod yX7_tells ∈ pm_ws ∧ Cond.selects yX7_tells.cls yX7_tells yX7_tells ∈ pm_ws := ⟨pm_ws_of (List.mem_append_right _ (List.mem_of_getElem? (i := 1055) (by decide +kernel))) rfl, pm_ws_of (List.mem_append_left _ (List.mem_of_getElem? (i := 68) (by decide +kernel))) rfl⟩
theorem pm_v_X7_tellsDown : Cond.instanceMethod yX7_tellsDown ∈ pm_ws ∧ Cond.selects yX7_tellsDown.cls yX7_tellsDown yX7_tellsDown ∈ pm_ws := ⟨pm_ws_of (List.mem_append_right _ (List.mem_of_getElem? (i := 1059) (by decide +kernel))) rfl, pm_ws_of (List.mem_append_left _ (List.mem_of_getElem? (i := 69) (by decide +kernel))) rfl⟩
theorem pm_v_X7_spread : Cond.instanceMethod yX7_spread ∈ pm_ws ∧ Cond.selects yX7_spread.cls yX7_spread yX7_spread ∈ pm_ws := ⟨pm_ws_of (List.mem_append_right _ (List.mem_of_getElem? (i := 1063) (by decide +kernel))) rfl, pm_ws_of (List.mem_append_left _ (List.mem_of_getElem? (i := 70) (by decide +kernel))) rfl⟩
theorem pm_v_X7_pass : Cond.instanceMethod yX7_pass ∈ pm_ws ∧ Cond.selects yX7_pass.cls yX7_pass yX7_pass ∈ pm_ws := ⟨pm_ws_of (List.mem_append_right _ (List.mem_of_getElem? (i := 1066) (by decide +kernel))) rfl, pm_ws_of (List.mem_append_right _ (List.mem_of_getElem? (i := 1067) (by decide +kernel))) rfl⟩
theorem pm_v_X7_out : Cond.instanceMethod yX7_out ∈ pm_ws ∧ Cond.selects yX7_out.cls yX7_out yX7_out ∈ pm_ws := ⟨pm_ws_of (List.mem_append_right _ (List.mem_of_getElem? (i := 1070) (by decide +kernel))) rfl, pm_ws_of (List.mem_append_right _ (List.mem_of_getElem? (i := 1071) (by decide +kernel))) rfl⟩
theorem pm_v_X7_process : Cond.instanceMethod yX7_process ∈ pm_ws ∧ Cond.selects yX7_process.cls yX7_process yX7_process ∈ pm_ws := ⟨pm_ws_of (List.mem_append_right _ (List.mem_of_getElem? (i := 1074) (by decide +kernel))) rfl, pm_ws_of (List.mem_append_right _ (List.mem_of_getElem? (i := 1075) (by decide +kernel))) rfl⟩
theorem pm_v_X7_register : Cond.instanceMethod yX7_register ∈ pm_ws ∧ Cond.selects yX7_register.cls yX7_register yX7_register ∈ pm_ws := ⟨pm_ws_of (List.mem_append_right _ (List.mem_of_getElem? (i := 1078) (by decide +kernel))) rfl, pm_ws_of (List.mem_append_right _ (List.mem_of_getElem? (i := 1079) (by decide +kernel))) rfl⟩
theorem pm_v_X7_numberOf : Cond.instanceMethod yX7_numberOf ∈ pm_ws ∧ Cond.selects yX7_numberOf.cls yX7_numberOf yX7_numberOf ∈ pm_ws := ⟨pm_ws_of (List.mem_append_right _ (List.mem_of_getElem? (i := 1083) (by decide +kernel))) rfl, pm_ws_of (List.mem_append_left _ (List.mem_of_getElem? (i := 71) (by decide +kernel))) rfl⟩
theorem pm_v_X7_message : Cond.instanceMethod yX7_message ∈ pm_ws ∧ Cond.selects yX7_message.cls yX7_message yX7_message ∈ pm_ws := ⟨pm_ws_of (List.mem_append_right _ (List.mem_of_getElem? (i := 1086) (by decide +kernel))) rfl, pm_ws_of (List.mem_append_right _ (List.mem_of_getElem? (i := 1087) (by decide +kernel))) rfl⟩
theorem pm_v_X7_total : Cond.instanceMethod yX7_total ∈ pm_ws ∧ Cond.selects yX7_total.cls yX7_total yX7_total ∈ pm_ws := ⟨pm_ws_of (List.mem_append_right _ (List.mem_of_getElem? (i := 1090) (by decide +kernel))) rfl, pm_ws_of (List.mem_append_right _ (List.mem_of_getElem? (i := 1091) (by decide +kernel))) rfl⟩
theorem pm_oi : Cond.instanceMethod objectInit ∈ pm_ws := pm_ws_of (List.mem_append_right _ (List.mem_of_getElem? (i := 23) (by decide +kernel))) rfl
theorem pm_an : Cond.native arraycopyName ∈ pm_ws := pm_ws_of (List.mem_append_right _ (List.mem_of_getElem? (i := 402) (by decide +kernel))) rfl
theorem pm_as : Cond.static arraycopyName ∈ pm_ws := pm_ws_of (List.mem_append_right _ (List.mem_of_getElem? (i := 401) (by decide +kernel))) rfl
