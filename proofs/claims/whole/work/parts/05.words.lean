theorem in_X0 : ∀ w ∈ u_ws RX0 TX0 13, w ∈ lw_tbl := by decide +kernel
theorem gd_X0 : ∀ w ∈ u_ws RX0 TX0 13, goodWord w = true := by decide +kernel
theorem cl_X0 : ca_CL 0 RX0 TX0 13 tyX0 := ⟨rfl, fun w h => ca_inT (in_X0 w h) (gd_X0 w h), tyX0_ok, nmX0, by decide +kernel⟩
theorem in_X1 : ∀ w ∈ u_ws RX1 TX1 6, w ∈ lw_tbl := by decide +kernel
theorem gd_X1 : ∀ w ∈ u_ws RX1 TX1 6, goodWord w = true := by decide +kernel
theorem cl_X1 : ca_CL 1 RX1 TX1 6 tyX1 := ⟨rfl, fun w h => ca_inT (in_X1 w h) (gd_X1 w h), tyX1_ok, nmX1, by decide +kernel⟩
theorem in_X3 : ∀ w ∈ u_ws RX3 TX3 2, w ∈ lw_tbl := by decide +kernel
theorem gd_X3 : ∀ w ∈ u_ws RX3 TX3 2, goodWord w = true := by decide +kernel
theorem cl_X3 : ca_CL 2 RX3 TX3 2 tyX3 := ⟨rfl, fun w h => ca_inT (in_X3 w h) (gd_X3 w h), tyX3_ok, nmX3, by decide +kernel⟩
theorem in_X4 : ∀ w ∈ u_ws RX4 TX4 1, w ∈ lw_tbl := by decide +kernel
theorem gd_X4 : ∀ w ∈ u_ws RX4 TX4 1, goodWord w = true := by decide +kernel
theorem cl_X4 : ca_CL 3 RX4 TX4 1 tyX4 := ⟨rfl, fun w h => ca_inT (in_X4 w h) (gd_X4 w h), tyX4_ok, nmX4, by decide +kernel⟩
theorem in_X5 : ∀ w ∈ u_ws RX5 TX5 8, w ∈ lw_tbl := by decide +kernel
theorem gd_X5 : ∀ w ∈ u_ws RX5 TX5 8, goodWord w = true := by decide +kernel
theorem cl_X5 : ca_CL 4 RX5 TX5 8 tyX5 := ⟨rfl, fun w h => ca_inT (in_X5 w h) (gd_X5 w h), tyX5_ok, nmX5, by decide +kernel⟩
theorem in_X6 : ∀ w ∈ u_ws RX6 TX6 20, w ∈ lw_tbl := by decide +kernel
theorem gd_X6 : ∀ w ∈ u_ws RX6 TX6 20, goodWord w = true := by decide +kernel
theorem cl_X6 : ca_CL 5 RX6 TX6 20 tyX6 := ⟨rfl, fun w h => ca_inT (in_X6 w h) (gd_X6 w h), tyX6_ok, nmX6, by decide +kernel⟩
theorem w_in_L : Cond.initialized RL ∈ ca_TT := ca_inT (List.mem_of_getElem? (i := 46) (by decide +kernel)) rfl
theorem w_in_X5 : Cond.initialized RX5 ∈ ca_TT := ca_inT (List.mem_of_getElem? (i := 47) (by decide +kernel)) rfl
theorem w_in_X1 : Cond.initialized RX1 ∈ ca_TT := ca_inT (List.mem_of_getElem? (i := 48) (by decide +kernel)) rfl
theorem w_in_X0 : Cond.initialized RX0 ∈ ca_TT := ca_inT (List.mem_of_getElem? (i := 49) (by decide +kernel)) rfl
theorem w_in_X4 : Cond.initialized RX4 ∈ ca_TT := ca_inT (List.mem_of_getElem? (i := 50) (by decide +kernel)) rfl
theorem w_in_X3 : Cond.initialized RX3 ∈ ca_TT := ca_inT (List.mem_of_getElem? (i := 51) (by decide +kernel)) rfl
theorem w_in_J9 : Cond.initialized RJ9 ∈ ca_TT := ca_inT (List.mem_of_getElem? (i := 52) (by decide +kernel)) rfl
theorem w_in_X6 : Cond.initialized RX6 ∈ ca_TT := ca_inT (List.mem_of_getElem? (i := 53) (by decide +kernel)) rfl
theorem w_in_J10 : Cond.initialized RJ10 ∈ ca_TT := ca_inT (List.mem_of_getElem? (i := 54) (by decide +kernel)) rfl
theorem w_in_J0 : Cond.initialized RJ0 ∈ ca_TT := ca_inT (List.mem_of_getElem? (i := 55) (by decide +kernel)) rfl
theorem w_in_J1 : Cond.initialized RJ1 ∈ ca_TT := ca_inT (List.mem_of_getElem? (i := 56) (by decide +kernel)) rfl
theorem w_in_J3 : Cond.initialized RJ3 ∈ ca_TT := ca_inT (List.mem_of_getElem? (i := 57) (by decide +kernel)) rfl
theorem w_in_J2 : Cond.initialized RJ2 ∈ ca_TT := ca_inT (List.mem_of_getElem? (i := 58) (by decide +kernel)) rfl
theorem w_in_X2 : Cond.initialized RX2 ∈ ca_TT := ca_inT (List.mem_of_getElem? (i := 59) (by decide +kernel)) rfl
theorem w_in_J6 : Cond.initialized RJ6 ∈ ca_TT := ca_inT (List.mem_of_getElem? (i := 60) (by decide +kernel)) rfl
theorem w_cl_L_7 : Cond.classLink RL 7 RX5 ∈ ca_TT := ca_inT (List.mem_of_getElem? (i := 61) (by decide +kernel)) rfl
theorem w_is_X5 : Cond.instantiable RX5 8 ∈ ca_TT := ca_inT (List.mem_of_getElem? (i := 62) (by decide +kernel)) rfl
theorem w_ml_L_9 : Cond.methodLink RL 9 yX5_init ∈ ca_TT := ca_inT (List.mem_of_getElem? (i := 63) (by decide +kernel)) rfl
theorem w_ml_X5_1 : Cond.methodLink RX5 1 Lib.objectInit ∈ ca_TT := ca_inT (List.mem_of_getElem? (i := 66) (by decide +kernel)) rfl
theorem w_oi : Cond.instanceMethod Lib.objectInit ∈ ca_TT := ca_inT (List.mem_of_getElem? (i := 67) (by decide +kernel)) rfl
theorem w_oc : Cond.code Lib.objectInit ⟨#[0xb1]⟩ 1 none ∈ ca_TT := ca_inT (List.mem_of_getElem? (i := 68) (rfl)) rfl
theorem w_cl_X5_7 : Cond.classLink RX5 7 RX1 ∈ ca_TT := ca_inT (List.mem_of_getElem? (i := 69) (by decide +kernel)) rfl
theorem w_is_X1 : Cond.instantiable RX1 6 ∈ ca_TT := ca_inT (List.mem_of_getElem? (i := 70) (by decide +kernel)) rfl
theorem w_ml_X5_9 : Cond.methodLink RX5 9 yX1_init ∈ ca_TT := ca_inT (List.mem_of_getElem? (i := 71) (by decide +kernel)) rfl
theorem w_ml_X1_3 : Cond.methodLink RX1 3 Lib.objectInit ∈ ca_TT := ca_inT (List.mem_of_getElem? (i := 74) (by decide +kernel)) rfl
theorem w_fl_X1_9 : Cond.fieldLink RX1 9 RX1 (TX1 0).2.1 (TX1 0).2.2.1 ∈ ca_TT := ca_inT (List.mem_of_getElem? (i := 75) (by decide +kernel)) rfl
theorem w_fn_X0_36 : Cond.fieldLinkNest RX0 36 RX1 (TX1 0).2.1 (TX1 0).2.2.1 "FoughtFromMemory" ∈ ca_NT := ca_inN (List.mem_of_getElem? (i := 76) (by decide +kernel)) rfl
theorem w_fl_X1_15 : Cond.fieldLink RX1 15 RX1 (TX1 1).2.1 (TX1 1).2.2.1 ∈ ca_TT := ca_inT (List.mem_of_getElem? (i := 77) (by decide +kernel)) rfl
theorem w_fn_X0_41 : Cond.fieldLinkNest RX0 41 RX1 (TX1 1).2.1 (TX1 1).2.2.1 "FoughtFromMemory" ∈ ca_NT := ca_inN (List.mem_of_getElem? (i := 78) (by decide +kernel)) rfl
theorem w_fl_X1_18 : Cond.fieldLink RX1 18 RX1 (TX1 2).2.1 (TX1 2).2.2.1 ∈ ca_TT := ca_inT (List.mem_of_getElem? (i := 79) (by decide +kernel)) rfl
theorem w_fl_X1_21 : Cond.fieldLink RX1 21 RX1 (TX1 3).2.1 (TX1 3).2.2.1 ∈ ca_TT := ca_inT (List.mem_of_getElem? (i := 80) (by decide +kernel)) rfl
theorem w_fl_X1_24 : Cond.fieldLink RX1 24 RX1 (TX1 4).2.1 (TX1 4).2.2.1 ∈ ca_TT := ca_inT (List.mem_of_getElem? (i := 81) (by decide +kernel)) rfl
theorem w_fn_X0_54 : Cond.fieldLinkNest RX0 54 RX1 (TX1 4).2.1 (TX1 4).2.2.1 "FoughtFromMemory" ∈ ca_NT := ca_inN (List.mem_of_getElem? (i := 82) (by decide +kernel)) rfl
theorem w_fn_X5_153 : Cond.fieldLinkNest RX5 153 RX1 (TX1 4).2.1 (TX1 4).2.2.1 "FoughtFromMemory" ∈ ca_NT := ca_inN (List.mem_of_getElem? (i := 83) (by decide +kernel)) rfl
theorem w_fl_X1_28 : Cond.fieldLink RX1 28 RX1 (TX1 5).2.1 (TX1 5).2.2.1 ∈ ca_TT := ca_inT (List.mem_of_getElem? (i := 84) (by decide +kernel)) rfl
theorem w_fn_X5_118 : Cond.fieldLinkNest RX5 118 RX1 (TX1 5).2.1 (TX1 5).2.2.1 "FoughtFromMemory" ∈ ca_NT := ca_inN (List.mem_of_getElem? (i := 85) (by decide +kernel)) rfl
theorem w_fn_X4_108 : Cond.fieldLinkNest RX4 108 RX1 (TX1 5).2.1 (TX1 5).2.2.1 "FoughtFromMemory" ∈ ca_NT := ca_inN (List.mem_of_getElem? (i := 86) (by decide +kernel)) rfl
theorem w_arr : Cond.arrayClass .int ∈ ca_TT := ca_inT (List.mem_of_getElem? (i := 100) (by decide +kernel)) rfl
theorem w_cl_X5_22 : Cond.classLink RX5 22 RX0 ∈ ca_TT := ca_inT (List.mem_of_getElem? (i := 101) (by decide +kernel)) rfl
theorem w_is_X0 : Cond.instantiable RX0 13 ∈ ca_TT := ca_inT (List.mem_of_getElem? (i := 102) (by decide +kernel)) rfl
theorem w_ml_X5_24 : Cond.methodLink RX5 24 yX0_init ∈ ca_TT := ca_inT (List.mem_of_getElem? (i := 103) (by decide +kernel)) rfl
theorem w_ml_X0_5 : Cond.methodLink RX0 5 Lib.objectInit ∈ ca_TT := ca_inT (List.mem_of_getElem? (i := 106) (by decide +kernel)) rfl
theorem w_fl_X0_11 : Cond.fieldLink RX0 11 RX0 (TX0 0).2.1 (TX0 0).2.2.1 ∈ ca_TT := ca_inT (List.mem_of_getElem? (i := 107) (by decide +kernel)) rfl
theorem w_fl_X0_15 : Cond.fieldLink RX0 15 RX0 (TX0 1).2.1 (TX0 1).2.2.1 ∈ ca_TT := ca_inT (List.mem_of_getElem? (i := 108) (by decide +kernel)) rfl
theorem w_fl_X0_18 : Cond.fieldLink RX0 18 RX0 (TX0 2).2.1 (TX0 2).2.2.1 ∈ ca_TT := ca_inT (List.mem_of_getElem? (i := 109) (by decide +kernel)) rfl
theorem w_fl_X0_21 : Cond.fieldLink RX0 21 RX0 (TX0 3).2.1 (TX0 3).2.2.1 ∈ ca_TT := ca_inT (List.mem_of_getElem? (i := 110) (by decide +kernel)) rfl
theorem w_fl_X0_24 : Cond.fieldLink RX0 24 RX0 (TX0 4).2.1 (TX0 4).2.2.1 ∈ ca_TT := ca_inT (List.mem_of_getElem? (i := 111) (by decide +kernel)) rfl
theorem w_fl_X0_27 : Cond.fieldLink RX0 27 RX0 (TX0 5).2.1 (TX0 5).2.2.1 ∈ ca_TT := ca_inT (List.mem_of_getElem? (i := 112) (by decide +kernel)) rfl
theorem w_fl_X0_30 : Cond.fieldLink RX0 30 RX0 (TX0 6).2.1 (TX0 6).2.2.1 ∈ ca_TT := ca_inT (List.mem_of_getElem? (i := 113) (by decide +kernel)) rfl
theorem w_fl_X0_33 : Cond.fieldLink RX0 33 RX0 (TX0 7).2.1 (TX0 7).2.2.1 ∈ ca_TT := ca_inT (List.mem_of_getElem? (i := 114) (by decide +kernel)) rfl
theorem w_fl_X0_63 : Cond.fieldLink RX0 63 RX0 (TX0 8).2.1 (TX0 8).2.2.1 ∈ ca_TT := ca_inT (List.mem_of_getElem? (i := 115) (by decide +kernel)) rfl
theorem w_fl_X0_71 : Cond.fieldLink RX0 71 RX0 (TX0 9).2.1 (TX0 9).2.2.1 ∈ ca_TT := ca_inT (List.mem_of_getElem? (i := 116) (by decide +kernel)) rfl
theorem w_fl_X0_77 : Cond.fieldLink RX0 77 RX0 (TX0 10).2.1 (TX0 10).2.2.1 ∈ ca_TT := ca_inT (List.mem_of_getElem? (i := 117) (by decide +kernel)) rfl
theorem w_fl_X0_87 : Cond.fieldLink RX0 87 RX0 (TX0 11).2.1 (TX0 11).2.2.1 ∈ ca_TT := ca_inT (List.mem_of_getElem? (i := 118) (by decide +kernel)) rfl
theorem w_fl_X0_93 : Cond.fieldLink RX0 93 RX0 (TX0 12).2.1 (TX0 12).2.2.1 ∈ ca_TT := ca_inT (List.mem_of_getElem? (i := 119) (by decide +kernel)) rfl
theorem w_cl_X5_29 : Cond.classLink RX5 29 RX4 ∈ ca_TT := ca_inT (List.mem_of_getElem? (i := 147) (by decide +kernel)) rfl
theorem w_is_X4 : Cond.instantiable RX4 1 ∈ ca_TT := ca_inT (List.mem_of_getElem? (i := 148) (by decide +kernel)) rfl
theorem w_ml_X5_31 : Cond.methodLink RX5 31 yX4_init ∈ ca_TT := ca_inT (List.mem_of_getElem? (i := 149) (by decide +kernel)) rfl
theorem w_ml_X4_3 : Cond.methodLink RX4 3 Lib.objectInit ∈ ca_TT := ca_inT (List.mem_of_getElem? (i := 152) (by decide +kernel)) rfl
theorem w_cl_X4_9 : Cond.classLink RX4 9 RX3 ∈ ca_TT := ca_inT (List.mem_of_getElem? (i := 153) (by decide +kernel)) rfl
theorem w_is_X3 : Cond.instantiable RX3 2 ∈ ca_TT := ca_inT (List.mem_of_getElem? (i := 154) (by decide +kernel)) rfl
theorem w_ml_X4_11 : Cond.methodLink RX4 11 yX3_init ∈ ca_TT := ca_inT (List.mem_of_getElem? (i := 155) (by decide +kernel)) rfl
theorem w_ml_X3_3 : Cond.methodLink RX3 3 Lib.objectInit ∈ ca_TT := ca_inT (List.mem_of_getElem? (i := 158) (by decide +kernel)) rfl
theorem w_ml_X3_9 : Cond.methodLink RX3 9 yJ9_max_7cf53 ∈ ca_TT := ca_inT (List.mem_of_getElem? (i := 159) (by decide +kernel)) rfl
theorem w_fl_X3_15 : Cond.fieldLink RX3 15 RX3 (TX3 0).2.1 (TX3 0).2.2.1 ∈ ca_TT := ca_inT (List.mem_of_getElem? (i := 162) (by decide +kernel)) rfl
theorem w_fl_X3_21 : Cond.fieldLink RX3 21 RX3 (TX3 1).2.1 (TX3 1).2.2.1 ∈ ca_TT := ca_inT (List.mem_of_getElem? (i := 163) (by decide +kernel)) rfl
theorem w_fn_X4_24 : Cond.fieldLinkNest RX4 24 RX3 (TX3 1).2.1 (TX3 1).2.2.1 "FoughtFromMemory" ∈ ca_NT := ca_inN (List.mem_of_getElem? (i := 164) (by decide +kernel)) rfl
theorem w_fn_X5_213 : Cond.fieldLinkNest RX5 213 RX3 (TX3 1).2.1 (TX3 1).2.2.1 "FoughtFromMemory" ∈ ca_NT := ca_inN (List.mem_of_getElem? (i := 165) (by decide +kernel)) rfl
theorem w_fl_X4_14 : Cond.fieldLink RX4 14 RX4 (TX4 0).2.1 (TX4 0).2.2.1 ∈ ca_TT := ca_inT (List.mem_of_getElem? (i := 171) (by decide +kernel)) rfl
theorem w_fn_X5_57 : Cond.fieldLinkNest RX5 57 RX4 (TX4 0).2.1 (TX4 0).2.2.1 "FoughtFromMemory" ∈ ca_NT := ca_inN (List.mem_of_getElem? (i := 172) (by decide +kernel)) rfl
theorem w_cl_X5_36 : Cond.classLink RX5 36 RX3 ∈ ca_TT := ca_inT (List.mem_of_getElem? (i := 176) (by decide +kernel)) rfl
theorem w_ml_X5_38 : Cond.methodLink RX5 38 yX3_init ∈ ca_TT := ca_inT (List.mem_of_getElem? (i := 177) (by decide +kernel)) rfl
theorem w_fl_X5_10 : Cond.fieldLink RX5 10 RX5 (TX5 0).2.1 (TX5 0).2.2.1 ∈ ca_TT := ca_inT (List.mem_of_getElem? (i := 178) (by decide +kernel)) rfl
theorem w_fl_X5_16 : Cond.fieldLink RX5 16 RX5 (TX5 1).2.1 (TX5 1).2.2.1 ∈ ca_TT := ca_inT (List.mem_of_getElem? (i := 179) (by decide +kernel)) rfl
theorem w_fl_X5_19 : Cond.fieldLink RX5 19 RX5 (TX5 2).2.1 (TX5 2).2.2.1 ∈ ca_TT := ca_inT (List.mem_of_getElem? (i := 180) (by decide +kernel)) rfl
theorem w_fl_X5_25 : Cond.fieldLink RX5 25 RX5 (TX5 3).2.1 (TX5 3).2.2.1 ∈ ca_TT := ca_inT (List.mem_of_getElem? (i := 181) (by decide +kernel)) rfl
theorem w_fl_X5_32 : Cond.fieldLink RX5 32 RX5 (TX5 4).2.1 (TX5 4).2.2.1 ∈ ca_TT := ca_inT (List.mem_of_getElem? (i := 182) (by decide +kernel)) rfl
theorem w_fl_X5_41 : Cond.fieldLink RX5 41 RX5 (TX5 5).2.1 (TX5 5).2.2.1 ∈ ca_TT := ca_inT (List.mem_of_getElem? (i := 183) (by decide +kernel)) rfl
theorem w_fl_X5_45 : Cond.fieldLink RX5 45 RX5 (TX5 6).2.1 (TX5 6).2.2.1 ∈ ca_TT := ca_inT (List.mem_of_getElem? (i := 184) (by decide +kernel)) rfl
theorem w_fl_X5_49 : Cond.fieldLink RX5 49 RX5 (TX5 7).2.1 (TX5 7).2.2.1 ∈ ca_TT := ca_inT (List.mem_of_getElem? (i := 185) (by decide +kernel)) rfl
theorem w_ml_L_13 : Cond.methodLink RL 13 yX5_letter ∈ ca_TT := ca_inT (List.mem_of_getElem? (i := 203) (by decide +kernel)) rfl
theorem w_ml_X5_53 : Cond.methodLink RX5 53 yX5_refuse ∈ ca_TT := ca_inT (List.mem_of_getElem? (i := 207) (by decide +kernel)) rfl
theorem w_ml_X5_60 : Cond.methodLink RX5 60 yX3_isFull ∈ ca_TT := ca_inT (List.mem_of_getElem? (i := 211) (by decide +kernel)) rfl
theorem w_ml_X5_64 : Cond.methodLink RX5 64 yX3_add ∈ ca_TT := ca_inT (List.mem_of_getElem? (i := 215) (by decide +kernel)) rfl
theorem w_ml_L_18 : Cond.methodLink RL 18 yX5_house ∈ ca_TT := ca_inT (List.mem_of_getElem? (i := 219) (by decide +kernel)) rfl
theorem w_ml_X5_67 : Cond.methodLink RX5 67 yX1_become ∈ ca_TT := ca_inT (List.mem_of_getElem? (i := 223) (by decide +kernel)) rfl
theorem w_ml_X1_31 : Cond.methodLink RX1 31 arraycopyName ∈ ca_TT := ca_inT (List.mem_of_getElem? (i := 227) (by decide +kernel)) rfl
theorem w_acs : Cond.static arraycopyName ∈ ca_TT := ca_inT (List.mem_of_getElem? (i := 228) (by decide +kernel)) rfl
theorem w_native : Cond.native arraycopyName ∈ ca_TT := ca_inT (List.mem_of_getElem? (i := 229) (by decide +kernel)) rfl
theorem w_ml_X5_71 : Cond.methodLink RX5 71 yX4_tellTo ∈ ca_TT := ca_inT (List.mem_of_getElem? (i := 230) (by decide +kernel)) rfl
theorem w_ml_X4_20 : Cond.methodLink RX4 20 yX4_firstStray ∈ ca_TT := ca_inT (List.mem_of_getElem? (i := 234) (by decide +kernel)) rfl
theorem w_ml_X4_32 : Cond.methodLink RX4 32 yX3_at ∈ ca_TT := ca_inT (List.mem_of_getElem? (i := 238) (by decide +kernel)) rfl
theorem w_ml_X4_36 : Cond.methodLink RX4 36 yX4_formOf ∈ ca_TT := ca_inT (List.mem_of_getElem? (i := 242) (by decide +kernel)) rfl
theorem w_ml_X4_45 : Cond.methodLink RX4 45 yX4_fittingLetters ∈ ca_TT := ca_inT (List.mem_of_getElem? (i := 251) (by decide +kernel)) rfl
theorem w_ml_X4_40 : Cond.methodLink RX4 40 yJ0_length_8abf5 ∈ ca_TT := ca_inT (List.mem_of_getElem? (i := 255) (by decide +kernel)) rfl
theorem w_ml_J0_335 : Cond.methodLink RJ0 335 yJ0_coder_7d493 ∈ ca_TT := ca_inT (List.mem_of_getElem? (i := 259) (by decide +kernel)) rfl
theorem w_ml_X4_53 : Cond.methodLink RX4 53 yJ0_charAt_5068e ∈ ca_TT := ca_inT (List.mem_of_getElem? (i := 265) (by decide +kernel)) rfl
theorem w_ml_J0_492 : Cond.methodLink RJ0 492 yJ0_isLatin1_aae02 ∈ ca_TT := ca_inT (List.mem_of_getElem? (i := 269) (by decide +kernel)) rfl
theorem w_ml_J0_495 : Cond.methodLink RJ0 495 yJ1_charAt_3b067 ∈ ca_TT := ca_inT (List.mem_of_getElem? (i := 273) (by decide +kernel)) rfl
theorem w_ml_J1_9 : Cond.methodLink RJ1 9 yJ0_checkIndex_df160 ∈ ca_TT := ca_inT (List.mem_of_getElem? (i := 276) (by decide +kernel)) rfl
theorem w_ml_J0_1059 : Cond.methodLink RJ0 1059 yJ3_checkIndex_8e157 ∈ ca_TT := ca_inT (List.mem_of_getElem? (i := 281) (by decide +kernel)) rfl
theorem w_ml_J0_498 : Cond.methodLink RJ0 498 yJ2_charAt_3b067 ∈ ca_TT := ca_inT (List.mem_of_getElem? (i := 284) (by decide +kernel)) rfl
theorem w_ml_J2_67 : Cond.methodLink RJ2 67 yJ2_checkIndex_2214a ∈ ca_TT := ca_inT (List.mem_of_getElem? (i := 287) (by decide +kernel)) rfl
theorem w_ml_J2_48 : Cond.methodLink RJ2 48 yJ2_length_9d52b ∈ ca_TT := ca_inT (List.mem_of_getElem? (i := 290) (by decide +kernel)) rfl
theorem w_ml_J2_414 : Cond.methodLink RJ2 414 yJ0_checkIndex_df160 ∈ ca_TT := ca_inT (List.mem_of_getElem? (i := 293) (by decide +kernel)) rfl
theorem w_ml_J2_71 : Cond.methodLink RJ2 71 yJ2_getChar_3b067 ∈ ca_TT := ca_inT (List.mem_of_getElem? (i := 294) (by decide +kernel)) rfl
theorem w_ml_X4_57 : Cond.methodLink RX4 57 yX4_fits ∈ ca_TT := ca_inT (List.mem_of_getElem? (i := 303) (by decide +kernel)) rfl
theorem w_ml_X4_61 : Cond.methodLink RX4 61 yX4_kindOfLetter ∈ ca_TT := ca_inT (List.mem_of_getElem? (i := 306) (by decide +kernel)) rfl
theorem w_ml_X4_49 : Cond.methodLink RX4 49 yJ0_isEmpty_aae02 ∈ ca_TT := ca_inT (List.mem_of_getElem? (i := 310) (by decide +kernel)) rfl
theorem w_ml_X4_28 : Cond.methodLink RX4 28 yX4_tellStatement ∈ ca_TT := ca_inT (List.mem_of_getElem? (i := 314) (by decide +kernel)) rfl
theorem w_ml_X4_76 : Cond.methodLink RX4 76 yX4_pairAt ∈ ca_TT := ca_inT (List.mem_of_getElem? (i := 318) (by decide +kernel)) rfl
theorem w_ml_X4_79 : Cond.methodLink RX4 79 yX4_digitAt ∈ ca_TT := ca_inT (List.mem_of_getElem? (i := 322) (by decide +kernel)) rfl
theorem w_ml_X4_82 : Cond.methodLink RX4 82 yX4_tellThings ∈ ca_TT := ca_inT (List.mem_of_getElem? (i := 326) (by decide +kernel)) rfl
theorem w_ml_X4_98 : Cond.methodLink RX4 98 yX1_put ∈ ca_TT := ca_inT (List.mem_of_getElem? (i := 330) (by decide +kernel)) rfl
theorem w_mn_X1_37 : Cond.methodLinkNest RX1 37 yX5_isRoom "FoughtFromMemory" ∈ ca_NT := ca_inN (List.mem_of_getElem? (i := 334) (by decide +kernel)) rfl
theorem w_ml_X4_86 : Cond.methodLink RX4 86 yX1_takeIn ∈ ca_TT := ca_inT (List.mem_of_getElem? (i := 337) (by decide +kernel)) rfl
theorem w_ml_X1_63 : Cond.methodLink RX1 63 yX1_sharpen ∈ ca_TT := ca_inT (List.mem_of_getElem? (i := 341) (by decide +kernel)) rfl
theorem w_ml_X1_60 : Cond.methodLink RX1 60 yX1_hasPerson ∈ ca_TT := ca_inT (List.mem_of_getElem? (i := 345) (by decide +kernel)) rfl
theorem w_ml_X1_67 : Cond.methodLink RX1 67 yX1_learn ∈ ca_TT := ca_inT (List.mem_of_getElem? (i := 349) (by decide +kernel)) rfl
theorem w_ml_X4_92 : Cond.methodLink RX4 92 yX4_tellKnown ∈ ca_TT := ca_inT (List.mem_of_getElem? (i := 353) (by decide +kernel)) rfl
theorem w_ml_X4_102 : Cond.methodLink RX4 102 yX1_hasPerson ∈ ca_TT := ca_inT (List.mem_of_getElem? (i := 357) (by decide +kernel)) rfl
theorem w_ml_X4_105 : Cond.methodLink RX4 105 yX1_learn ∈ ca_TT := ca_inT (List.mem_of_getElem? (i := 358) (by decide +kernel)) rfl
theorem w_ml_X4_95 : Cond.methodLink RX4 95 yX4_tellNights ∈ ca_TT := ca_inT (List.mem_of_getElem? (i := 359) (by decide +kernel)) rfl
theorem w_ml_X4_111 : Cond.methodLink RX4 111 yX1_passNights ∈ ca_TT := ca_inT (List.mem_of_getElem? (i := 362) (by decide +kernel)) rfl
theorem w_ml_X1_71 : Cond.methodLink RX1 71 yX1_sharpOf ∈ ca_TT := ca_inT (List.mem_of_getElem? (i := 366) (by decide +kernel)) rfl
theorem w_ml_X1_74 : Cond.methodLink RX1 74 yX1_forgetSome ∈ ca_TT := ca_inT (List.mem_of_getElem? (i := 370) (by decide +kernel)) rfl
theorem w_ml_X1_78 : Cond.methodLink RX1 78 yJ9_max_7cf53 ∈ ca_TT := ca_inT (List.mem_of_getElem? (i := 374) (by decide +kernel)) rfl
theorem w_ml_X5_75 : Cond.methodLink RX5 75 yX3_forget ∈ ca_TT := ca_inT (List.mem_of_getElem? (i := 375) (by decide +kernel)) rfl
theorem w_ml_L_23 : Cond.methodLink RL 23 yX5_room ∈ ca_TT := ca_inT (List.mem_of_getElem? (i := 380) (by decide +kernel)) rfl
theorem w_ml_X5_78 : Cond.methodLink RX5 78 yX5_isRoom ∈ ca_TT := ca_inT (List.mem_of_getElem? (i := 384) (by decide +kernel)) rfl
theorem w_ml_X5_82 : Cond.methodLink RX5 82 yX1_kindOf ∈ ca_TT := ca_inT (List.mem_of_getElem? (i := 385) (by decide +kernel)) rfl
theorem w_ml_X5_85 : Cond.methodLink RX5 85 yX1_figureOf ∈ ca_TT := ca_inT (List.mem_of_getElem? (i := 389) (by decide +kernel)) rfl
theorem w_ml_X5_88 : Cond.methodLink RX5 88 yX1_needsOf ∈ ca_TT := ca_inT (List.mem_of_getElem? (i := 393) (by decide +kernel)) rfl
theorem w_ml_X1_41 : Cond.methodLink RX1 41 yX1_kindOf ∈ ca_TT := ca_inT (List.mem_of_getElem? (i := 397) (by decide +kernel)) rfl
theorem w_ml_X1_45 : Cond.methodLink RX1 45 yX2_needs ∈ ca_TT := ca_inT (List.mem_of_getElem? (i := 398) (by decide +kernel)) rfl
theorem w_ml_X5_91 : Cond.methodLink RX5 91 yX1_catchesOf ∈ ca_TT := ca_inT (List.mem_of_getElem? (i := 401) (by decide +kernel)) rfl
theorem w_ml_X1_50 : Cond.methodLink RX1 50 yX2_catches ∈ ca_TT := ca_inT (List.mem_of_getElem? (i := 405) (by decide +kernel)) rfl
theorem w_ml_X5_94 : Cond.methodLink RX5 94 yX1_worthOf ∈ ca_TT := ca_inT (List.mem_of_getElem? (i := 408) (by decide +kernel)) rfl
theorem w_ml_X1_53 : Cond.methodLink RX1 53 yX1_figureOf ∈ ca_TT := ca_inT (List.mem_of_getElem? (i := 412) (by decide +kernel)) rfl
theorem w_ml_X1_56 : Cond.methodLink RX1 56 yX2_worth ∈ ca_TT := ca_inT (List.mem_of_getElem? (i := 413) (by decide +kernel)) rfl
theorem w_ml_L_28 : Cond.methodLink RL 28 yX5_person ∈ ca_TT := ca_inT (List.mem_of_getElem? (i := 416) (by decide +kernel)) rfl
theorem w_ml_X5_97 : Cond.methodLink RX5 97 yX5_isPerson ∈ ca_TT := ca_inT (List.mem_of_getElem? (i := 420) (by decide +kernel)) rfl
theorem w_ml_X5_242 : Cond.methodLink RX5 242 yX1_hasPerson ∈ ca_TT := ca_inT (List.mem_of_getElem? (i := 424) (by decide +kernel)) rfl
theorem w_ml_X5_100 : Cond.methodLink RX5 100 yX1_sharpOf ∈ ca_TT := ca_inT (List.mem_of_getElem? (i := 425) (by decide +kernel)) rfl
theorem w_ml_X5_103 : Cond.methodLink RX5 103 yX1_knownBy ∈ ca_TT := ca_inT (List.mem_of_getElem? (i := 426) (by decide +kernel)) rfl
theorem w_ml_L_32 : Cond.methodLink RL 32 yX5_turn ∈ ca_TT := ca_inT (List.mem_of_getElem? (i := 430) (by decide +kernel)) rfl
theorem w_ml_X5_107 : Cond.methodLink RX5 107 yX1_put ∈ ca_TT := ca_inT (List.mem_of_getElem? (i := 434) (by decide +kernel)) rfl
theorem w_ml_L_37 : Cond.methodLink RL 37 yX5_sharp ∈ ca_TT := ca_inT (List.mem_of_getElem? (i := 435) (by decide +kernel)) rfl
theorem w_ml_X5_111 : Cond.methodLink RX5 111 yX1_sharpen ∈ ca_TT := ca_inT (List.mem_of_getElem? (i := 439) (by decide +kernel)) rfl
theorem w_ml_L_41 : Cond.methodLink RL 41 yX5_visit ∈ ca_TT := ca_inT (List.mem_of_getElem? (i := 440) (by decide +kernel)) rfl
theorem w_ml_X5_115 : Cond.methodLink RX5 115 yX1_learn ∈ ca_TT := ca_inT (List.mem_of_getElem? (i := 444) (by decide +kernel)) rfl
theorem w_ml_L_45 : Cond.methodLink RL 45 yX5_nights ∈ ca_TT := ca_inT (List.mem_of_getElem? (i := 445) (by decide +kernel)) rfl
theorem w_ml_X5_122 : Cond.methodLink RX5 122 yX1_passNights ∈ ca_TT := ca_inT (List.mem_of_getElem? (i := 449) (by decide +kernel)) rfl
theorem w_ml_X5_125 : Cond.methodLink RX5 125 yX1_sureRooms ∈ ca_TT := ca_inT (List.mem_of_getElem? (i := 450) (by decide +kernel)) rfl
theorem w_k_X1_83 : Cond.constant RX1 83 (33554431) ∈ ca_TT := ca_inT (List.mem_of_getElem? (i := 454) (by decide +kernel)) rfl
theorem w_ml_X1_84 : Cond.methodLink RX1 84 yX1_roomsSayableBy ∈ ca_TT := ca_inT (List.mem_of_getElem? (i := 455) (by decide +kernel)) rfl
theorem w_ml_X1_87 : Cond.methodLink RX1 87 yJ6_bitCount_0f7a4 ∈ ca_TT := ca_inT (List.mem_of_getElem? (i := 459) (by decide +kernel)) rfl
theorem w_k_J6_265 : Cond.constant RJ6 265 (1431655765) ∈ ca_TT := ca_inT (List.mem_of_getElem? (i := 462) (by decide +kernel)) rfl
theorem w_k_J6_266 : Cond.constant RJ6 266 (858993459) ∈ ca_TT := ca_inT (List.mem_of_getElem? (i := 463) (by decide +kernel)) rfl
theorem w_k_J6_267 : Cond.constant RJ6 267 (252645135) ∈ ca_TT := ca_inT (List.mem_of_getElem? (i := 464) (by decide +kernel)) rfl
theorem w_ml_L_49 : Cond.methodLink RL 49 yX5_fire ∈ ca_TT := ca_inT (List.mem_of_getElem? (i := 465) (by decide +kernel)) rfl
theorem w_ml_X5_129 : Cond.methodLink RX5 129 yX5_isSpeaker ∈ ca_TT := ca_inT (List.mem_of_getElem? (i := 469) (by decide +kernel)) rfl
theorem w_ml_X5_132 : Cond.methodLink RX5 132 yX5_burnAsNow ∈ ca_TT := ca_inT (List.mem_of_getElem? (i := 473) (by decide +kernel)) rfl
theorem w_ml_X5_159 : Cond.methodLink RX5 159 yX0_lookAt ∈ ca_TT := ca_inT (List.mem_of_getElem? (i := 477) (by decide +kernel)) rfl
theorem w_ml_X0_44 : Cond.methodLink RX0 44 yX2_worth ∈ ca_TT := ca_inT (List.mem_of_getElem? (i := 481) (by decide +kernel)) rfl
theorem w_ml_X0_50 : Cond.methodLink RX0 50 yX2_catches ∈ ca_TT := ca_inT (List.mem_of_getElem? (i := 482) (by decide +kernel)) rfl
theorem w_ml_X0_58 : Cond.methodLink RX0 58 yJ9_min_7cf53 ∈ ca_TT := ca_inT (List.mem_of_getElem? (i := 483) (by decide +kernel)) rfl
theorem w_ml_X0_64 : Cond.methodLink RX0 64 yX1_roomsSayableBy ∈ ca_TT := ca_inT (List.mem_of_getElem? (i := 486) (by decide +kernel)) rfl
theorem w_ml_X5_245 : Cond.methodLink RX5 245 yX0_letAllSpeak ∈ ca_TT := ca_inT (List.mem_of_getElem? (i := 487) (by decide +kernel)) rfl
theorem w_ml_X0_67 : Cond.methodLink RX0 67 yX0_letSpeak ∈ ca_TT := ca_inT (List.mem_of_getElem? (i := 491) (by decide +kernel)) rfl
theorem w_ml_X0_74 : Cond.methodLink RX0 74 yJ9_floorMod_7cf53 ∈ ca_TT := ca_inT (List.mem_of_getElem? (i := 495) (by decide +kernel)) rfl
theorem w_ml_X5_248 : Cond.methodLink RX5 248 yX0_burn ∈ ca_TT := ca_inT (List.mem_of_getElem? (i := 498) (by decide +kernel)) rfl
theorem w_ml_X0_80 : Cond.methodLink RX0 80 yX0_allBeside ∈ ca_TT := ca_inT (List.mem_of_getElem? (i := 502) (by decide +kernel)) rfl
theorem w_k_X0_108 : Cond.constant RX0 108 (-17318417) ∈ ca_TT := ca_inT (List.mem_of_getElem? (i := 505) (by decide +kernel)) rfl
theorem w_k_X0_109 : Cond.constant RX0 109 (-1082402) ∈ ca_TT := ca_inT (List.mem_of_getElem? (i := 506) (by decide +kernel)) rfl
theorem w_k_X0_110 : Cond.constant RX0 110 (33554431) ∈ ca_TT := ca_inT (List.mem_of_getElem? (i := 507) (by decide +kernel)) rfl
theorem w_ml_X0_83 : Cond.methodLink RX0 83 yX0_spreadFrom ∈ ca_TT := ca_inT (List.mem_of_getElem? (i := 508) (by decide +kernel)) rfl
theorem w_ml_X0_105 : Cond.methodLink RX0 105 yX0_caughtIn ∈ ca_TT := ca_inT (List.mem_of_getElem? (i := 512) (by decide +kernel)) rfl
theorem w_ml_X0_90 : Cond.methodLink RX0 90 yX0_speak ∈ ca_TT := ca_inT (List.mem_of_getElem? (i := 516) (by decide +kernel)) rfl
theorem w_ml_X0_96 : Cond.methodLink RX0 96 yX0_speakerIn ∈ ca_TT := ca_inT (List.mem_of_getElem? (i := 520) (by decide +kernel)) rfl
theorem w_ml_X0_99 : Cond.methodLink RX0 99 yX0_sayableBy ∈ ca_TT := ca_inT (List.mem_of_getElem? (i := 524) (by decide +kernel)) rfl
theorem w_ml_X0_102 : Cond.methodLink RX0 102 yX0_dearest ∈ ca_TT := ca_inT (List.mem_of_getElem? (i := 528) (by decide +kernel)) rfl
theorem w_ml_X5_135 : Cond.methodLink RX5 135 yX0_roomsBurnt ∈ ca_TT := ca_inT (List.mem_of_getElem? (i := 532) (by decide +kernel)) rfl
theorem w_ml_X0_111 : Cond.methodLink RX0 111 yX0_burnt ∈ ca_TT := ca_inT (List.mem_of_getElem? (i := 536) (by decide +kernel)) rfl
theorem w_ml_X0_120 : Cond.methodLink RX0 120 yX0_isMinute ∈ ca_TT := ca_inT (List.mem_of_getElem? (i := 540) (by decide +kernel)) rfl
theorem w_ml_X0_115 : Cond.methodLink RX0 115 yJ6_bitCount_0f7a4 ∈ ca_TT := ca_inT (List.mem_of_getElem? (i := 543) (by decide +kernel)) rfl
theorem w_ml_X5_138 : Cond.methodLink RX5 138 yX0_worthBurnt ∈ ca_TT := ca_inT (List.mem_of_getElem? (i := 544) (by decide +kernel)) rfl
theorem w_ml_X5_141 : Cond.methodLink RX5 141 yX0_lastMinute ∈ ca_TT := ca_inT (List.mem_of_getElem? (i := 548) (by decide +kernel)) rfl
theorem w_ml_L_53 : Cond.methodLink RL 53 yX5_burns ∈ ca_TT := ca_inT (List.mem_of_getElem? (i := 552) (by decide +kernel)) rfl
theorem w_ml_X5_144 : Cond.methodLink RX5 144 yX0_minuteBurnt ∈ ca_TT := ca_inT (List.mem_of_getElem? (i := 556) (by decide +kernel)) rfl
theorem w_ml_L_57 : Cond.methodLink RL 57 yX5_said ∈ ca_TT := ca_inT (List.mem_of_getElem? (i := 560) (by decide +kernel)) rfl
theorem w_ml_X5_147 : Cond.methodLink RX5 147 yX0_minuteSaid ∈ ca_TT := ca_inT (List.mem_of_getElem? (i := 564) (by decide +kernel)) rfl
theorem w_ml_X0_124 : Cond.methodLink RX0 124 yX0_roomSaidIn ∈ ca_TT := ca_inT (List.mem_of_getElem? (i := 568) (by decide +kernel)) rfl
theorem w_ml_X5_150 : Cond.methodLink RX5 150 yX0_speakerIn ∈ ca_TT := ca_inT (List.mem_of_getElem? (i := 572) (by decide +kernel)) rfl
theorem w_ml_L_62 : Cond.methodLink RL 62 yX5_talker ∈ ca_TT := ca_inT (List.mem_of_getElem? (i := 573) (by decide +kernel)) rfl
theorem w_ml_X5_156 : Cond.methodLink RX5 156 yX0_timesSpoken ∈ ca_TT := ca_inT (List.mem_of_getElem? (i := 577) (by decide +kernel)) rfl
theorem w_ml_L_66 : Cond.methodLink RL 66 yX5_alone ∈ ca_TT := ca_inT (List.mem_of_getElem? (i := 581) (by decide +kernel)) rfl
theorem w_ml_X5_162 : Cond.methodLink RX5 162 yX5_worthWithOnly ∈ ca_TT := ca_inT (List.mem_of_getElem? (i := 585) (by decide +kernel)) rfl
theorem w_ml_X5_251 : Cond.methodLink RX5 251 yX0_letSpeak ∈ ca_TT := ca_inT (List.mem_of_getElem? (i := 589) (by decide +kernel)) rfl
theorem w_ml_L_70 : Cond.methodLink RL 70 yX5_bestSpeaker ∈ ca_TT := ca_inT (List.mem_of_getElem? (i := 590) (by decide +kernel)) rfl
theorem w_ml_X5_165 : Cond.methodLink RX5 165 yX5_bestAgainst ∈ ca_TT := ca_inT (List.mem_of_getElem? (i := 594) (by decide +kernel)) rfl
theorem w_ml_X5_168 : Cond.methodLink RX5 168 yX5_worthBy ∈ ca_TT := ca_inT (List.mem_of_getElem? (i := 598) (by decide +kernel)) rfl
theorem w_ml_X5_180 : Cond.methodLink RX5 180 yJ9_max_7cf53 ∈ ca_TT := ca_inT (List.mem_of_getElem? (i := 602) (by decide +kernel)) rfl
theorem w_ml_L_74 : Cond.methodLink RL 74 yX5_worstRoom ∈ ca_TT := ca_inT (List.mem_of_getElem? (i := 603) (by decide +kernel)) rfl
theorem w_ml_L_78 : Cond.methodLink RL 78 yX5_show ∈ ca_TT := ca_inT (List.mem_of_getElem? (i := 607) (by decide +kernel)) rfl
theorem w_ml_X5_171 : Cond.methodLink RX5 171 yX5_worthIn ∈ ca_TT := ca_inT (List.mem_of_getElem? (i := 611) (by decide +kernel)) rfl
theorem w_ml_L_82 : Cond.methodLink RL 82 yX5_mayWait ∈ ca_TT := ca_inT (List.mem_of_getElem? (i := 615) (by decide +kernel)) rfl
theorem w_ml_L_86 : Cond.methodLink RL 86 yX5_leftOut ∈ ca_TT := ca_inT (List.mem_of_getElem? (i := 619) (by decide +kernel)) rfl
theorem w_ml_L_90 : Cond.methodLink RL 90 yX5_enough ∈ ca_TT := ca_inT (List.mem_of_getElem? (i := 623) (by decide +kernel)) rfl
theorem w_ml_X5_175 : Cond.methodLink RX5 175 yJ6_bitCount_0f7a4 ∈ ca_TT := ca_inT (List.mem_of_getElem? (i := 627) (by decide +kernel)) rfl
theorem w_ml_L_94 : Cond.methodLink RL 94 yX5_wall ∈ ca_TT := ca_inT (List.mem_of_getElem? (i := 628) (by decide +kernel)) rfl
theorem w_ml_L_98 : Cond.methodLink RL 98 yX5_captain ∈ ca_TT := ca_inT (List.mem_of_getElem? (i := 632) (by decide +kernel)) rfl
theorem w_ml_L_102 : Cond.methodLink RL 102 yX5_unlike ∈ ca_TT := ca_inT (List.mem_of_getElem? (i := 636) (by decide +kernel)) rfl
theorem w_ml_X5_185 : Cond.methodLink RX5 185 yX1_roomsSayableBy ∈ ca_TT := ca_inT (List.mem_of_getElem? (i := 640) (by decide +kernel)) rfl
theorem w_ml_X5_188 : Cond.methodLink RX5 188 yX5_firstOf ∈ ca_TT := ca_inT (List.mem_of_getElem? (i := 641) (by decide +kernel)) rfl
theorem w_ml_L_106 : Cond.methodLink RL 106 yX5_sure ∈ ca_TT := ca_inT (List.mem_of_getElem? (i := 644) (by decide +kernel)) rfl
theorem w_ml_X5_191 : Cond.methodLink RX5 191 yX1_somebodysRooms ∈ ca_TT := ca_inT (List.mem_of_getElem? (i := 648) (by decide +kernel)) rfl
theorem w_ml_L_110 : Cond.methodLink RL 110 yX5_slip ∈ ca_TT := ca_inT (List.mem_of_getElem? (i := 652) (by decide +kernel)) rfl
theorem w_ml_X5_194 : Cond.methodLink RX5 194 yX5_refuseLong ∈ ca_TT := ca_inT (List.mem_of_getElem? (i := 656) (by decide +kernel)) rfl
theorem w_k_X5_240 : Cond.constantLong RX5 240 (4000000000000000000) ∈ ca_TT := ca_inT (List.mem_of_getElem? (i := 660) (by decide +kernel)) rfl
theorem w_ml_X5_198 : Cond.methodLink RX5 198 yX5_slipsWithin ∈ ca_TT := ca_inT (List.mem_of_getElem? (i := 661) (by decide +kernel)) rfl
theorem w_ml_X5_202 : Cond.methodLink RX5 202 yX5_power ∈ ca_TT := ca_inT (List.mem_of_getElem? (i := 665) (by decide +kernel)) rfl
theorem w_ml_X5_206 : Cond.methodLink RX5 206 yX5_commonDivisor ∈ ca_TT := ca_inT (List.mem_of_getElem? (i := 668) (by decide +kernel)) rfl
theorem w_ml_L_115 : Cond.methodLink RL 115 yX5_whatWas ∈ ca_TT := ca_inT (List.mem_of_getElem? (i := 671) (by decide +kernel)) rfl
theorem w_ml_X5_210 : Cond.methodLink RX5 210 yX5_burnsAsRowTells ∈ ca_TT := ca_inT (List.mem_of_getElem? (i := 675) (by decide +kernel)) rfl
theorem w_ml_X5_216 : Cond.methodLink RX5 216 yX3_at ∈ ca_TT := ca_inT (List.mem_of_getElem? (i := 679) (by decide +kernel)) rfl
theorem w_ml_X5_222 : Cond.methodLink RX5 222 yX5_asRowTells ∈ ca_TT := ca_inT (List.mem_of_getElem? (i := 680) (by decide +kernel)) rfl
theorem w_ml_L_119 : Cond.methodLink RL 119 yX5_row ∈ ca_TT := ca_inT (List.mem_of_getElem? (i := 683) (by decide +kernel)) rfl
theorem w_ml_L_123 : Cond.methodLink RL 123 yX5_judge ∈ ca_TT := ca_inT (List.mem_of_getElem? (i := 687) (by decide +kernel)) rfl
theorem w_ml_X5_219 : Cond.methodLink RX5 219 yX0_roomSaidIn ∈ ca_TT := ca_inT (List.mem_of_getElem? (i := 691) (by decide +kernel)) rfl
theorem w_ml_L_127 : Cond.methodLink RL 127 yX5_clear ∈ ca_TT := ca_inT (List.mem_of_getElem? (i := 692) (by decide +kernel)) rfl
theorem w_ml_L_131 : Cond.methodLink RL 131 yX5_lots ∈ ca_TT := ca_inT (List.mem_of_getElem? (i := 696) (by decide +kernel)) rfl
theorem w_ml_X5_225 : Cond.methodLink RX5 225 yX5_seedAfter ∈ ca_TT := ca_inT (List.mem_of_getElem? (i := 700) (by decide +kernel)) rfl
theorem w_k_X5_254 : Cond.constant RX5 254 (1664525) ∈ ca_TT := ca_inT (List.mem_of_getElem? (i := 703) (by decide +kernel)) rfl
theorem w_k_X5_255 : Cond.constant RX5 255 (1013904223) ∈ ca_TT := ca_inT (List.mem_of_getElem? (i := 704) (by decide +kernel)) rfl
theorem w_ml_X5_228 : Cond.methodLink RX5 228 yX5_drawn ∈ ca_TT := ca_inT (List.mem_of_getElem? (i := 705) (by decide +kernel)) rfl
theorem w_k_X5_256 : Cond.constant RX5 256 (2147483647) ∈ ca_TT := ca_inT (List.mem_of_getElem? (i := 708) (by decide +kernel)) rfl
theorem w_ml_L_135 : Cond.methodLink RL 135 yX5_image ∈ ca_TT := ca_inT (List.mem_of_getElem? (i := 709) (by decide +kernel)) rfl
theorem w_ml_L_139 : Cond.methodLink RL 139 yX5_on ∈ ca_TT := ca_inT (List.mem_of_getElem? (i := 713) (by decide +kernel)) rfl
theorem w_ml_L_143 : Cond.methodLink RL 143 yX5_count ∈ ca_TT := ca_inT (List.mem_of_getElem? (i := 717) (by decide +kernel)) rfl
theorem w_ml_X5_231 : Cond.methodLink RX5 231 yX1_allWorth ∈ ca_TT := ca_inT (List.mem_of_getElem? (i := 721) (by decide +kernel)) rfl
theorem w_ml_X1_92 : Cond.methodLink RX1 92 yX1_worthOf ∈ ca_TT := ca_inT (List.mem_of_getElem? (i := 725) (by decide +kernel)) rfl
theorem w_ml_X5_234 : Cond.methodLink RX5 234 yX1_walls ∈ ca_TT := ca_inT (List.mem_of_getElem? (i := 726) (by decide +kernel)) rfl
theorem w_ml_X5_237 : Cond.methodLink RX5 237 yX1_allKnown ∈ ca_TT := ca_inT (List.mem_of_getElem? (i := 730) (by decide +kernel)) rfl
theorem w_ml_X1_95 : Cond.methodLink RX1 95 yX1_knownBy ∈ ca_TT := ca_inT (List.mem_of_getElem? (i := 734) (by decide +kernel)) rfl
theorem w_cl_L_10 : Cond.classLink RL 10 RX6 ∈ ca_TT := ca_inT (List.mem_of_getElem? (i := 735) (by decide +kernel)) rfl
theorem w_is_X6 : Cond.instantiable RX6 20 ∈ ca_TT := ca_inT (List.mem_of_getElem? (i := 736) (by decide +kernel)) rfl
theorem w_ml_L_12 : Cond.methodLink RL 12 yX6_init ∈ ca_TT := ca_inT (List.mem_of_getElem? (i := 737) (by decide +kernel)) rfl
theorem w_ml_X6_1 : Cond.methodLink RX6 1 Lib.objectInit ∈ ca_TT := ca_inT (List.mem_of_getElem? (i := 740) (by decide +kernel)) rfl
theorem w_fl_X6_9 : Cond.fieldLink RX6 9 RX6 (TX6 0).2.1 (TX6 0).2.2.1 ∈ ca_TT := ca_inT (List.mem_of_getElem? (i := 741) (by decide +kernel)) rfl
theorem w_fl_X6_13 : Cond.fieldLink RX6 13 RX6 (TX6 1).2.1 (TX6 1).2.2.1 ∈ ca_TT := ca_inT (List.mem_of_getElem? (i := 742) (by decide +kernel)) rfl
theorem w_fl_X6_16 : Cond.fieldLink RX6 16 RX6 (TX6 2).2.1 (TX6 2).2.2.1 ∈ ca_TT := ca_inT (List.mem_of_getElem? (i := 743) (by decide +kernel)) rfl
theorem w_fl_X6_19 : Cond.fieldLink RX6 19 RX6 (TX6 3).2.1 (TX6 3).2.2.1 ∈ ca_TT := ca_inT (List.mem_of_getElem? (i := 744) (by decide +kernel)) rfl
theorem w_fl_X6_202 : Cond.fieldLink RX6 202 RX6 (TX6 4).2.1 (TX6 4).2.2.1 ∈ ca_TT := ca_inT (List.mem_of_getElem? (i := 745) (by decide +kernel)) rfl
theorem w_fl_X6_22 : Cond.fieldLink RX6 22 RX6 (TX6 5).2.1 (TX6 5).2.2.1 ∈ ca_TT := ca_inT (List.mem_of_getElem? (i := 746) (by decide +kernel)) rfl
theorem w_fl_X6_25 : Cond.fieldLink RX6 25 RX6 (TX6 6).2.1 (TX6 6).2.2.1 ∈ ca_TT := ca_inT (List.mem_of_getElem? (i := 747) (by decide +kernel)) rfl
theorem w_fl_X6_28 : Cond.fieldLink RX6 28 RX6 (TX6 7).2.1 (TX6 7).2.2.1 ∈ ca_TT := ca_inT (List.mem_of_getElem? (i := 748) (by decide +kernel)) rfl
theorem w_fl_X6_118 : Cond.fieldLink RX6 118 RX6 (TX6 8).2.1 (TX6 8).2.2.1 ∈ ca_TT := ca_inT (List.mem_of_getElem? (i := 749) (by decide +kernel)) rfl
theorem w_fl_X6_190 : Cond.fieldLink RX6 190 RX6 (TX6 9).2.1 (TX6 9).2.2.1 ∈ ca_TT := ca_inT (List.mem_of_getElem? (i := 750) (by decide +kernel)) rfl
theorem w_fl_X6_31 : Cond.fieldLink RX6 31 RX6 (TX6 10).2.1 (TX6 10).2.2.1 ∈ ca_TT := ca_inT (List.mem_of_getElem? (i := 751) (by decide +kernel)) rfl
theorem w_fl_X6_34 : Cond.fieldLink RX6 34 RX6 (TX6 11).2.1 (TX6 11).2.2.1 ∈ ca_TT := ca_inT (List.mem_of_getElem? (i := 752) (by decide +kernel)) rfl
theorem w_fl_X6_37 : Cond.fieldLink RX6 37 RX6 (TX6 12).2.1 (TX6 12).2.2.1 ∈ ca_TT := ca_inT (List.mem_of_getElem? (i := 753) (by decide +kernel)) rfl
theorem w_fl_X6_40 : Cond.fieldLink RX6 40 RX6 (TX6 13).2.1 (TX6 13).2.2.1 ∈ ca_TT := ca_inT (List.mem_of_getElem? (i := 754) (by decide +kernel)) rfl
theorem w_fl_X6_43 : Cond.fieldLink RX6 43 RX6 (TX6 14).2.1 (TX6 14).2.2.1 ∈ ca_TT := ca_inT (List.mem_of_getElem? (i := 755) (by decide +kernel)) rfl
theorem w_fl_X6_96 : Cond.fieldLink RX6 96 RX6 (TX6 15).2.1 (TX6 15).2.2.1 ∈ ca_TT := ca_inT (List.mem_of_getElem? (i := 756) (by decide +kernel)) rfl
theorem w_fl_X6_100 : Cond.fieldLink RX6 100 RX6 (TX6 16).2.1 (TX6 16).2.2.1 ∈ ca_TT := ca_inT (List.mem_of_getElem? (i := 757) (by decide +kernel)) rfl
theorem w_fl_X6_121 : Cond.fieldLink RX6 121 RX6 (TX6 17).2.1 (TX6 17).2.2.1 ∈ ca_TT := ca_inT (List.mem_of_getElem? (i := 758) (by decide +kernel)) rfl
theorem w_fl_X6_46 : Cond.fieldLink RX6 46 RX6 (TX6 18).2.1 (TX6 18).2.2.1 ∈ ca_TT := ca_inT (List.mem_of_getElem? (i := 759) (by decide +kernel)) rfl
theorem w_fl_X6_193 : Cond.fieldLink RX6 193 RX6 (TX6 19).2.1 (TX6 19).2.2.1 ∈ ca_TT := ca_inT (List.mem_of_getElem? (i := 760) (by decide +kernel)) rfl
theorem w_ml_L_17 : Cond.methodLink RL 17 yX6_letter ∈ ca_TT := ca_inT (List.mem_of_getElem? (i := 802) (by decide +kernel)) rfl
theorem w_ml_X6_51 : Cond.methodLink RX6 51 yX6_no ∈ ca_TT := ca_inT (List.mem_of_getElem? (i := 806) (by decide +kernel)) rfl
theorem w_ml_L_22 : Cond.methodLink RL 22 yX6_house ∈ ca_TT := ca_inT (List.mem_of_getElem? (i := 810) (by decide +kernel)) rfl
theorem w_ml_X6_144 : Cond.methodLink RX6 144 yX6_readsStatement ∈ ca_TT := ca_inT (List.mem_of_getElem? (i := 814) (by decide +kernel)) rfl
theorem w_ml_X6_124 : Cond.methodLink RX6 124 yX6_here ∈ ca_TT := ca_inT (List.mem_of_getElem? (i := 818) (by decide +kernel)) rfl
theorem w_ml_X6_131 : Cond.methodLink RX6 131 yX6_readsKind ∈ ca_TT := ca_inT (List.mem_of_getElem? (i := 822) (by decide +kernel)) rfl
theorem w_ml_X6_128 : Cond.methodLink RX6 128 yX6_kindBy ∈ ca_TT := ca_inT (List.mem_of_getElem? (i := 826) (by decide +kernel)) rfl
theorem w_ml_X6_134 : Cond.methodLink RX6 134 yX6_readsNumber ∈ ca_TT := ca_inT (List.mem_of_getElem? (i := 829) (by decide +kernel)) rfl
theorem w_ml_X6_55 : Cond.methodLink RX6 55 yX6_isIn ∈ ca_TT := ca_inT (List.mem_of_getElem? (i := 833) (by decide +kernel)) rfl
theorem w_ml_X6_147 : Cond.methodLink RX6 147 yX6_lays ∈ ca_TT := ca_inT (List.mem_of_getElem? (i := 836) (by decide +kernel)) rfl
theorem w_ml_X6_151 : Cond.methodLink RX6 151 yX6_isDone ∈ ca_TT := ca_inT (List.mem_of_getElem? (i := 839) (by decide +kernel)) rfl
theorem w_ml_X6_138 : Cond.methodLink RX6 138 yX6_isRoom ∈ ca_TT := ca_inT (List.mem_of_getElem? (i := 843) (by decide +kernel)) rfl
theorem w_ml_X6_64 : Cond.methodLink RX6 64 yX6_known ∈ ca_TT := ca_inT (List.mem_of_getElem? (i := 846) (by decide +kernel)) rfl
theorem w_ml_X6_59 : Cond.methodLink RX6 59 yX6_isPerson ∈ ca_TT := ca_inT (List.mem_of_getElem? (i := 849) (by decide +kernel)) rfl
theorem w_ml_X6_141 : Cond.methodLink RX6 141 yX6_night ∈ ca_TT := ca_inT (List.mem_of_getElem? (i := 853) (by decide +kernel)) rfl
theorem w_ml_X6_72 : Cond.methodLink RX6 72 yX6_most ∈ ca_TT := ca_inT (List.mem_of_getElem? (i := 856) (by decide +kernel)) rfl
theorem w_ml_L_27 : Cond.methodLink RL 27 yX6_room ∈ ca_TT := ca_inT (List.mem_of_getElem? (i := 859) (by decide +kernel)) rfl
theorem w_ml_X6_68 : Cond.methodLink RX6 68 yX6_needs ∈ ca_TT := ca_inT (List.mem_of_getElem? (i := 863) (by decide +kernel)) rfl
theorem w_ml_X6_75 : Cond.methodLink RX6 75 yX6_catches ∈ ca_TT := ca_inT (List.mem_of_getElem? (i := 866) (by decide +kernel)) rfl
theorem w_k_X6_63 : Cond.constant RX6 63 (1000000000) ∈ ca_TT := ca_inT (List.mem_of_getElem? (i := 869) (by decide +kernel)) rfl
theorem w_ml_X6_85 : Cond.methodLink RX6 85 yX6_worth ∈ ca_TT := ca_inT (List.mem_of_getElem? (i := 870) (by decide +kernel)) rfl
theorem w_ml_L_31 : Cond.methodLink RL 31 yX6_person ∈ ca_TT := ca_inT (List.mem_of_getElem? (i := 873) (by decide +kernel)) rfl
theorem w_ml_L_36 : Cond.methodLink RL 36 yX6_turn ∈ ca_TT := ca_inT (List.mem_of_getElem? (i := 877) (by decide +kernel)) rfl
theorem w_ml_L_40 : Cond.methodLink RL 40 yX6_sharp ∈ ca_TT := ca_inT (List.mem_of_getElem? (i := 881) (by decide +kernel)) rfl
theorem w_ml_L_44 : Cond.methodLink RL 44 yX6_visit ∈ ca_TT := ca_inT (List.mem_of_getElem? (i := 885) (by decide +kernel)) rfl
theorem w_ml_L_48 : Cond.methodLink RL 48 yX6_nights ∈ ca_TT := ca_inT (List.mem_of_getElem? (i := 889) (by decide +kernel)) rfl
theorem w_ml_X6_154 : Cond.methodLink RX6 154 yX6_knownMany ∈ ca_TT := ca_inT (List.mem_of_getElem? (i := 893) (by decide +kernel)) rfl
theorem w_ml_X6_81 : Cond.methodLink RX6 81 yX6_isKnown ∈ ca_TT := ca_inT (List.mem_of_getElem? (i := 897) (by decide +kernel)) rfl
theorem w_ml_L_52 : Cond.methodLink RL 52 yX6_fire ∈ ca_TT := ca_inT (List.mem_of_getElem? (i := 900) (by decide +kernel)) rfl
theorem w_ml_X6_161 : Cond.methodLink RX6 161 yX6_isFire ∈ ca_TT := ca_inT (List.mem_of_getElem? (i := 904) (by decide +kernel)) rfl
theorem w_ml_X6_158 : Cond.methodLink RX6 158 yX6_isSpeaker ∈ ca_TT := ca_inT (List.mem_of_getElem? (i := 908) (by decide +kernel)) rfl
theorem w_ml_X6_164 : Cond.methodLink RX6 164 yX6_burnsBy ∈ ca_TT := ca_inT (List.mem_of_getElem? (i := 912) (by decide +kernel)) rfl
theorem w_ml_X6_106 : Cond.methodLink RX6 106 yX6_turnsFrom ∈ ca_TT := ca_inT (List.mem_of_getElem? (i := 916) (by decide +kernel)) rfl
theorem w_ml_X6_110 : Cond.methodLink RX6 110 yX6_burns ∈ ca_TT := ca_inT (List.mem_of_getElem? (i := 920) (by decide +kernel)) rfl
theorem w_ml_X6_88 : Cond.methodLink RX6 88 yX6_findsSoonest ∈ ca_TT := ca_inT (List.mem_of_getElem? (i := 924) (by decide +kernel)) rfl
theorem w_ml_X6_78 : Cond.methodLink RX6 78 yX6_beside ∈ ca_TT := ca_inT (List.mem_of_getElem? (i := 928) (by decide +kernel)) rfl
theorem w_ml_X6_92 : Cond.methodLink RX6 92 yX6_isGoingOn ∈ ca_TT := ca_inT (List.mem_of_getElem? (i := 931) (by decide +kernel)) rfl
theorem w_ml_X6_103 : Cond.methodLink RX6 103 yX6_toSay ∈ ca_TT := ca_inT (List.mem_of_getElem? (i := 935) (by decide +kernel)) rfl
theorem w_ml_X6_168 : Cond.methodLink RX6 168 yX6_burntMany ∈ ca_TT := ca_inT (List.mem_of_getElem? (i := 939) (by decide +kernel)) rfl
theorem w_ml_X6_114 : Cond.methodLink RX6 114 yX6_burntWorth ∈ ca_TT := ca_inT (List.mem_of_getElem? (i := 943) (by decide +kernel)) rfl
theorem w_ml_L_56 : Cond.methodLink RL 56 yX6_burns_ ∈ ca_TT := ca_inT (List.mem_of_getElem? (i := 947) (by decide +kernel)) rfl
theorem w_ml_L_61 : Cond.methodLink RL 61 yX6_said ∈ ca_TT := ca_inT (List.mem_of_getElem? (i := 951) (by decide +kernel)) rfl
theorem w_ml_L_65 : Cond.methodLink RL 65 yX6_talker ∈ ca_TT := ca_inT (List.mem_of_getElem? (i := 955) (by decide +kernel)) rfl
theorem w_ml_L_69 : Cond.methodLink RL 69 yX6_alone ∈ ca_TT := ca_inT (List.mem_of_getElem? (i := 959) (by decide +kernel)) rfl
theorem w_ml_L_73 : Cond.methodLink RL 73 yX6_bestSpeaker ∈ ca_TT := ca_inT (List.mem_of_getElem? (i := 963) (by decide +kernel)) rfl
theorem w_ml_X6_171 : Cond.methodLink RX6 171 yX6_worthBy ∈ ca_TT := ca_inT (List.mem_of_getElem? (i := 967) (by decide +kernel)) rfl
theorem w_ml_L_77 : Cond.methodLink RL 77 yX6_worstRoom ∈ ca_TT := ca_inT (List.mem_of_getElem? (i := 971) (by decide +kernel)) rfl
theorem w_ml_L_81 : Cond.methodLink RL 81 yX6_show ∈ ca_TT := ca_inT (List.mem_of_getElem? (i := 975) (by decide +kernel)) rfl
theorem w_ml_L_85 : Cond.methodLink RL 85 yX6_mayWait ∈ ca_TT := ca_inT (List.mem_of_getElem? (i := 979) (by decide +kernel)) rfl
theorem w_ml_L_89 : Cond.methodLink RL 89 yX6_leftOut ∈ ca_TT := ca_inT (List.mem_of_getElem? (i := 983) (by decide +kernel)) rfl
theorem w_ml_L_93 : Cond.methodLink RL 93 yX6_enough ∈ ca_TT := ca_inT (List.mem_of_getElem? (i := 987) (by decide +kernel)) rfl
theorem w_ml_X6_175 : Cond.methodLink RX6 175 yX6_bits ∈ ca_TT := ca_inT (List.mem_of_getElem? (i := 991) (by decide +kernel)) rfl
theorem w_ml_L_97 : Cond.methodLink RL 97 yX6_wall ∈ ca_TT := ca_inT (List.mem_of_getElem? (i := 994) (by decide +kernel)) rfl
theorem w_ml_L_101 : Cond.methodLink RL 101 yX6_captain ∈ ca_TT := ca_inT (List.mem_of_getElem? (i := 998) (by decide +kernel)) rfl
theorem w_ml_L_105 : Cond.methodLink RL 105 yX6_unlike ∈ ca_TT := ca_inT (List.mem_of_getElem? (i := 1002) (by decide +kernel)) rfl
theorem w_ml_L_109 : Cond.methodLink RL 109 yX6_sure ∈ ca_TT := ca_inT (List.mem_of_getElem? (i := 1006) (by decide +kernel)) rfl
theorem w_ml_L_114 : Cond.methodLink RL 114 yX6_slip ∈ ca_TT := ca_inT (List.mem_of_getElem? (i := 1010) (by decide +kernel)) rfl
theorem w_ml_X6_182 : Cond.methodLink RX6 182 yX6_noWide ∈ ca_TT := ca_inT (List.mem_of_getElem? (i := 1014) (by decide +kernel)) rfl
theorem w_k_X6_49 : Cond.constantLong RX6 49 (4000000000000000000) ∈ ca_TT := ca_inT (List.mem_of_getElem? (i := 1018) (by decide +kernel)) rfl
theorem w_ml_X6_186 : Cond.methodLink RX6 186 yX6_partOf ∈ ca_TT := ca_inT (List.mem_of_getElem? (i := 1019) (by decide +kernel)) rfl
theorem w_ml_X6_178 : Cond.methodLink RX6 178 yX6_gcd ∈ ca_TT := ca_inT (List.mem_of_getElem? (i := 1022) (by decide +kernel)) rfl
theorem w_ml_L_118 : Cond.methodLink RL 118 yX6_whatWas ∈ ca_TT := ca_inT (List.mem_of_getElem? (i := 1025) (by decide +kernel)) rfl
theorem w_ml_L_122 : Cond.methodLink RL 122 yX6_row ∈ ca_TT := ca_inT (List.mem_of_getElem? (i := 1029) (by decide +kernel)) rfl
theorem w_ml_L_126 : Cond.methodLink RL 126 yX6_judge ∈ ca_TT := ca_inT (List.mem_of_getElem? (i := 1033) (by decide +kernel)) rfl
theorem w_ml_L_130 : Cond.methodLink RL 130 yX6_clear ∈ ca_TT := ca_inT (List.mem_of_getElem? (i := 1037) (by decide +kernel)) rfl
theorem w_ml_L_134 : Cond.methodLink RL 134 yX6_lots ∈ ca_TT := ca_inT (List.mem_of_getElem? (i := 1041) (by decide +kernel)) rfl
theorem w_ml_X6_199 : Cond.methodLink RX6 199 yX6_drawn ∈ ca_TT := ca_inT (List.mem_of_getElem? (i := 1045) (by decide +kernel)) rfl
theorem w_k_X6_196 : Cond.constant RX6 196 (1664525) ∈ ca_TT := ca_inT (List.mem_of_getElem? (i := 1049) (by decide +kernel)) rfl
theorem w_k_X6_197 : Cond.constant RX6 197 (1013904223) ∈ ca_TT := ca_inT (List.mem_of_getElem? (i := 1050) (by decide +kernel)) rfl
theorem w_k_X6_198 : Cond.constant RX6 198 (2147483647) ∈ ca_TT := ca_inT (List.mem_of_getElem? (i := 1051) (by decide +kernel)) rfl
theorem w_ml_L_138 : Cond.methodLink RL 138 yX6_image ∈ ca_TT := ca_inT (List.mem_of_getElem? (i := 1052) (by decide +kernel)) rfl
theorem w_ml_L_142 : Cond.methodLink RL 142 yX6_on ∈ ca_TT := ca_inT (List.mem_of_getElem? (i := 1056) (by decide +kernel)) rfl
theorem w_ml_L_146 : Cond.methodLink RL 146 yX6_count ∈ ca_TT := ca_inT (List.mem_of_getElem? (i := 1060) (by decide +kernel)) rfl
set_option maxRecDepth 100000 in
theorem y0_X0_init : ca_Y yX0_init cX0_init 1 none 0 := ⟨ca_inT (List.mem_of_getElem? (i := 105) rfl) rfl, w_in_X0, by decide +kernel, by decide⟩
theorem y_X0_init : ca_YI yX0_init cX0_init 1 0 := ⟨y0_X0_init, rfl, ca_inT (List.mem_of_getElem? (i := 104) (by decide +kernel)) rfl⟩
set_option maxRecDepth 100000 in
theorem y0_X0_lookAt : ca_Y yX0_lookAt cX0_lookAt 5 none 1 := ⟨ca_inT (List.mem_of_getElem? (i := 480) rfl) rfl, w_in_X0, by decide +kernel, by decide⟩
theorem y_X0_lookAt : ca_YV yX0_lookAt cX0_lookAt 5 none 1 0 := ⟨y0_X0_lookAt, ca_inT (List.mem_of_getElem? (i := 478) (by decide +kernel)) rfl, ca_inT (List.mem_of_getElem? (i := 479) (by decide +kernel)) rfl, by decide +kernel⟩
set_option maxRecDepth 100000 in
theorem y0_X0_letAllSpeak : ca_Y yX0_letAllSpeak cX0_letAllSpeak 2 none 1 := ⟨ca_inT (List.mem_of_getElem? (i := 490) rfl) rfl, w_in_X0, by decide +kernel, by decide⟩
theorem y_X0_letAllSpeak : ca_YV yX0_letAllSpeak cX0_letAllSpeak 2 none 1 0 := ⟨y0_X0_letAllSpeak, ca_inT (List.mem_of_getElem? (i := 488) (by decide +kernel)) rfl, ca_inT (List.mem_of_getElem? (i := 489) (by decide +kernel)) rfl, by decide +kernel⟩
set_option maxRecDepth 100000 in
theorem y0_X0_letSpeak : ca_Y yX0_letSpeak cX0_letSpeak 5 none 2 := ⟨ca_inT (List.mem_of_getElem? (i := 494) rfl) rfl, w_in_X0, by decide +kernel, by decide⟩
theorem y_X0_letSpeak : ca_YV yX0_letSpeak cX0_letSpeak 5 none 2 0 := ⟨y0_X0_letSpeak, ca_inT (List.mem_of_getElem? (i := 492) (by decide +kernel)) rfl, ca_inT (List.mem_of_getElem? (i := 493) (by decide +kernel)) rfl, by decide +kernel⟩
set_option maxRecDepth 100000 in
theorem y0_X0_burn : ca_Y yX0_burn cX0_burn 5 none 2 := ⟨ca_inT (List.mem_of_getElem? (i := 501) rfl) rfl, w_in_X0, by decide +kernel, by decide⟩
theorem y_X0_burn : ca_YV yX0_burn cX0_burn 5 none 2 0 := ⟨y0_X0_burn, ca_inT (List.mem_of_getElem? (i := 499) (by decide +kernel)) rfl, ca_inT (List.mem_of_getElem? (i := 500) (by decide +kernel)) rfl, by decide +kernel⟩
set_option maxRecDepth 100000 in
theorem y0_X0_speak : ca_Y yX0_speak cX0_speak 5 (some .int) 1 := ⟨ca_inT (List.mem_of_getElem? (i := 519) rfl) rfl, w_in_X0, by decide +kernel, by decide⟩
theorem y_X0_speak : ca_YV yX0_speak cX0_speak 5 (some .int) 1 0 := ⟨y0_X0_speak, ca_inT (List.mem_of_getElem? (i := 518) (by decide +kernel)) rfl, ca_inT (List.mem_of_getElem? (i := 14) (by decide +kernel)) rfl, by decide +kernel⟩
set_option maxRecDepth 100000 in
theorem y0_X0_sayableBy : ca_Y yX0_sayableBy cX0_sayableBy 2 (some .int) 1 := ⟨ca_inT (List.mem_of_getElem? (i := 527) rfl) rfl, w_in_X0, by decide +kernel, by decide⟩
theorem y_X0_sayableBy : ca_YV yX0_sayableBy cX0_sayableBy 2 (some .int) 1 0 := ⟨y0_X0_sayableBy, ca_inT (List.mem_of_getElem? (i := 526) (by decide +kernel)) rfl, ca_inT (List.mem_of_getElem? (i := 15) (by decide +kernel)) rfl, by decide +kernel⟩
set_option maxRecDepth 100000 in
theorem y0_X0_dearest : ca_Y yX0_dearest cX0_dearest 5 (some .int) 1 := ⟨ca_inT (List.mem_of_getElem? (i := 531) rfl) rfl, w_in_X0, by decide +kernel, by decide⟩
theorem y_X0_dearest : ca_YV yX0_dearest cX0_dearest 5 (some .int) 1 0 := ⟨y0_X0_dearest, ca_inT (List.mem_of_getElem? (i := 530) (by decide +kernel)) rfl, ca_inT (List.mem_of_getElem? (i := 16) (by decide +kernel)) rfl, by decide +kernel⟩
set_option maxRecDepth 100000 in
theorem y0_X0_spreadFrom : ca_Y yX0_spreadFrom cX0_spreadFrom 4 none 1 := ⟨ca_inT (List.mem_of_getElem? (i := 511) rfl) rfl, w_in_X0, by decide +kernel, by decide⟩
theorem y_X0_spreadFrom : ca_YV yX0_spreadFrom cX0_spreadFrom 4 none 1 0 := ⟨y0_X0_spreadFrom, ca_inT (List.mem_of_getElem? (i := 510) (by decide +kernel)) rfl, ca_inT (List.mem_of_getElem? (i := 12) (by decide +kernel)) rfl, by decide +kernel⟩
set_option maxRecDepth 100000 in
theorem y0_X0_caughtIn : ca_Y yX0_caughtIn cX0_caughtIn 4 (some .int) 1 := ⟨ca_inT (List.mem_of_getElem? (i := 515) rfl) rfl, w_in_X0, by decide +kernel, by decide⟩
theorem y_X0_caughtIn : ca_YV yX0_caughtIn cX0_caughtIn 4 (some .int) 1 0 := ⟨y0_X0_caughtIn, ca_inT (List.mem_of_getElem? (i := 514) (by decide +kernel)) rfl, ca_inT (List.mem_of_getElem? (i := 13) (by decide +kernel)) rfl, by decide +kernel⟩
set_option maxRecDepth 100000 in
theorem y0_X0_isMinute : ca_Y yX0_isMinute cX0_isMinute 1 (some .boolean) 1 := ⟨ca_inT (List.mem_of_getElem? (i := 542) rfl) rfl, w_in_X0, by decide +kernel, by decide⟩
theorem y_X0_isMinute : ca_YS yX0_isMinute cX0_isMinute 1 (some .boolean) 1 := ⟨y0_X0_isMinute, ca_inT (List.mem_of_getElem? (i := 541) (by decide +kernel)) rfl⟩
set_option maxRecDepth 100000 in
theorem y0_X0_allBeside : ca_Y yX0_allBeside cX0_allBeside 2 (some .int) 1 := ⟨ca_inT (List.mem_of_getElem? (i := 504) rfl) rfl, w_in_X0, by decide +kernel, by decide⟩
theorem y_X0_allBeside : ca_YS yX0_allBeside cX0_allBeside 2 (some .int) 1 := ⟨y0_X0_allBeside, ca_inT (List.mem_of_getElem? (i := 503) (by decide +kernel)) rfl⟩
set_option maxRecDepth 100000 in
theorem y0_X0_roomsBurnt : ca_Y yX0_roomsBurnt cX0_roomsBurnt 1 (some .int) 0 := ⟨ca_inT (List.mem_of_getElem? (i := 535) rfl) rfl, w_in_X0, by decide +kernel, by decide⟩
theorem y_X0_roomsBurnt : ca_YV yX0_roomsBurnt cX0_roomsBurnt 1 (some .int) 0 0 := ⟨y0_X0_roomsBurnt, ca_inT (List.mem_of_getElem? (i := 533) (by decide +kernel)) rfl, ca_inT (List.mem_of_getElem? (i := 534) (by decide +kernel)) rfl, by decide +kernel⟩
set_option maxRecDepth 100000 in
theorem y0_X0_worthBurnt : ca_Y yX0_worthBurnt cX0_worthBurnt 4 (some .int) 0 := ⟨ca_inT (List.mem_of_getElem? (i := 547) rfl) rfl, w_in_X0, by decide +kernel, by decide⟩
theorem y_X0_worthBurnt : ca_YV yX0_worthBurnt cX0_worthBurnt 4 (some .int) 0 0 := ⟨y0_X0_worthBurnt, ca_inT (List.mem_of_getElem? (i := 545) (by decide +kernel)) rfl, ca_inT (List.mem_of_getElem? (i := 546) (by decide +kernel)) rfl, by decide +kernel⟩
set_option maxRecDepth 100000 in
theorem y0_X0_burnt : ca_Y yX0_burnt cX0_burnt 1 (some .int) 0 := ⟨ca_inT (List.mem_of_getElem? (i := 539) rfl) rfl, w_in_X0, by decide +kernel, by decide⟩
theorem y_X0_burnt : ca_YV yX0_burnt cX0_burnt 1 (some .int) 0 0 := ⟨y0_X0_burnt, ca_inT (List.mem_of_getElem? (i := 538) (by decide +kernel)) rfl, ca_inT (List.mem_of_getElem? (i := 17) (by decide +kernel)) rfl, by decide +kernel⟩
set_option maxRecDepth 100000 in
theorem y0_X0_lastMinute : ca_Y yX0_lastMinute cX0_lastMinute 1 (some .int) 0 := ⟨ca_inT (List.mem_of_getElem? (i := 551) rfl) rfl, w_in_X0, by decide +kernel, by decide⟩
theorem y_X0_lastMinute : ca_YV yX0_lastMinute cX0_lastMinute 1 (some .int) 0 0 := ⟨y0_X0_lastMinute, ca_inT (List.mem_of_getElem? (i := 549) (by decide +kernel)) rfl, ca_inT (List.mem_of_getElem? (i := 550) (by decide +kernel)) rfl, by decide +kernel⟩
set_option maxRecDepth 100000 in
theorem y0_X0_minuteBurnt : ca_Y yX0_minuteBurnt cX0_minuteBurnt 3 (some .int) 1 := ⟨ca_inT (List.mem_of_getElem? (i := 559) rfl) rfl, w_in_X0, by decide +kernel, by decide⟩
theorem y_X0_minuteBurnt : ca_YV yX0_minuteBurnt cX0_minuteBurnt 3 (some .int) 1 0 := ⟨y0_X0_minuteBurnt, ca_inT (List.mem_of_getElem? (i := 557) (by decide +kernel)) rfl, ca_inT (List.mem_of_getElem? (i := 558) (by decide +kernel)) rfl, by decide +kernel⟩
set_option maxRecDepth 100000 in
theorem y0_X0_roomSaidIn : ca_Y yX0_roomSaidIn cX0_roomSaidIn 2 (some .int) 1 := ⟨ca_inT (List.mem_of_getElem? (i := 571) rfl) rfl, w_in_X0, by decide +kernel, by decide⟩
theorem y_X0_roomSaidIn : ca_YV yX0_roomSaidIn cX0_roomSaidIn 2 (some .int) 1 0 := ⟨y0_X0_roomSaidIn, ca_inT (List.mem_of_getElem? (i := 569) (by decide +kernel)) rfl, ca_inT (List.mem_of_getElem? (i := 570) (by decide +kernel)) rfl, by decide +kernel⟩
set_option maxRecDepth 100000 in
theorem y0_X0_minuteSaid : ca_Y yX0_minuteSaid cX0_minuteSaid 3 (some .int) 1 := ⟨ca_inT (List.mem_of_getElem? (i := 567) rfl) rfl, w_in_X0, by decide +kernel, by decide⟩
theorem y_X0_minuteSaid : ca_YV yX0_minuteSaid cX0_minuteSaid 3 (some .int) 1 0 := ⟨y0_X0_minuteSaid, ca_inT (List.mem_of_getElem? (i := 565) (by decide +kernel)) rfl, ca_inT (List.mem_of_getElem? (i := 566) (by decide +kernel)) rfl, by decide +kernel⟩
set_option maxRecDepth 100000 in
theorem y0_X0_speakerIn : ca_Y yX0_speakerIn cX0_speakerIn 2 (some .int) 1 := ⟨ca_inT (List.mem_of_getElem? (i := 523) rfl) rfl, w_in_X0, by decide +kernel, by decide⟩
theorem y_X0_speakerIn : ca_YV yX0_speakerIn cX0_speakerIn 2 (some .int) 1 0 := ⟨y0_X0_speakerIn, ca_inT (List.mem_of_getElem? (i := 521) (by decide +kernel)) rfl, ca_inT (List.mem_of_getElem? (i := 522) (by decide +kernel)) rfl, by decide +kernel⟩
set_option maxRecDepth 100000 in
theorem y0_X0_timesSpoken : ca_Y yX0_timesSpoken cX0_timesSpoken 4 (some .int) 1 := ⟨ca_inT (List.mem_of_getElem? (i := 580) rfl) rfl, w_in_X0, by decide +kernel, by decide⟩
theorem y_X0_timesSpoken : ca_YV yX0_timesSpoken cX0_timesSpoken 4 (some .int) 1 0 := ⟨y0_X0_timesSpoken, ca_inT (List.mem_of_getElem? (i := 578) (by decide +kernel)) rfl, ca_inT (List.mem_of_getElem? (i := 579) (by decide +kernel)) rfl, by decide +kernel⟩
set_option maxRecDepth 100000 in
theorem y0_X1_init : ca_Y yX1_init cX1_init 1 none 0 := ⟨ca_inT (List.mem_of_getElem? (i := 73) rfl) rfl, w_in_X1, by decide +kernel, by decide⟩
theorem y_X1_init : ca_YI yX1_init cX1_init 1 0 := ⟨y0_X1_init, rfl, ca_inT (List.mem_of_getElem? (i := 72) (by decide +kernel)) rfl⟩
set_option maxRecDepth 100000 in
theorem y0_X1_become : ca_Y yX1_become cX1_become 2 none 1 := ⟨ca_inT (List.mem_of_getElem? (i := 226) rfl) rfl, w_in_X1, by decide +kernel, by decide⟩
theorem y_X1_become : ca_YV yX1_become cX1_become 2 none 1 1 := ⟨y0_X1_become, ca_inT (List.mem_of_getElem? (i := 224) (by decide +kernel)) rfl, ca_inT (List.mem_of_getElem? (i := 225) (by decide +kernel)) rfl, by decide +kernel⟩
set_option maxRecDepth 100000 in
theorem y0_X1_hasPerson : ca_Y yX1_hasPerson cX1_hasPerson 2 (some .boolean) 1 := ⟨ca_inT (List.mem_of_getElem? (i := 348) rfl) rfl, w_in_X1, by decide +kernel, by decide⟩
theorem y_X1_hasPerson : ca_YV yX1_hasPerson cX1_hasPerson 2 (some .boolean) 1 1 := ⟨y0_X1_hasPerson, ca_inT (List.mem_of_getElem? (i := 346) (by decide +kernel)) rfl, ca_inT (List.mem_of_getElem? (i := 347) (by decide +kernel)) rfl, by decide +kernel⟩
set_option maxRecDepth 100000 in
theorem y0_X1_kindOf : ca_Y yX1_kindOf cX1_kindOf 2 (some .int) 1 := ⟨ca_inT (List.mem_of_getElem? (i := 388) rfl) rfl, w_in_X1, by decide +kernel, by decide⟩
theorem y_X1_kindOf : ca_YV yX1_kindOf cX1_kindOf 2 (some .int) 1 1 := ⟨y0_X1_kindOf, ca_inT (List.mem_of_getElem? (i := 386) (by decide +kernel)) rfl, ca_inT (List.mem_of_getElem? (i := 387) (by decide +kernel)) rfl, by decide +kernel⟩
set_option maxRecDepth 100000 in
theorem y0_X1_figureOf : ca_Y yX1_figureOf cX1_figureOf 2 (some .int) 1 := ⟨ca_inT (List.mem_of_getElem? (i := 392) rfl) rfl, w_in_X1, by decide +kernel, by decide⟩
theorem y_X1_figureOf : ca_YV yX1_figureOf cX1_figureOf 2 (some .int) 1 1 := ⟨y0_X1_figureOf, ca_inT (List.mem_of_getElem? (i := 390) (by decide +kernel)) rfl, ca_inT (List.mem_of_getElem? (i := 391) (by decide +kernel)) rfl, by decide +kernel⟩
set_option maxRecDepth 100000 in
theorem y0_X1_needsOf : ca_Y yX1_needsOf cX1_needsOf 2 (some .int) 1 := ⟨ca_inT (List.mem_of_getElem? (i := 396) rfl) rfl, w_in_X1, by decide +kernel, by decide⟩
theorem y_X1_needsOf : ca_YV yX1_needsOf cX1_needsOf 2 (some .int) 1 1 := ⟨y0_X1_needsOf, ca_inT (List.mem_of_getElem? (i := 394) (by decide +kernel)) rfl, ca_inT (List.mem_of_getElem? (i := 395) (by decide +kernel)) rfl, by decide +kernel⟩
set_option maxRecDepth 100000 in
theorem y0_X1_catchesOf : ca_Y yX1_catchesOf cX1_catchesOf 2 (some .int) 1 := ⟨ca_inT (List.mem_of_getElem? (i := 404) rfl) rfl, w_in_X1, by decide +kernel, by decide⟩
theorem y_X1_catchesOf : ca_YV yX1_catchesOf cX1_catchesOf 2 (some .int) 1 1 := ⟨y0_X1_catchesOf, ca_inT (List.mem_of_getElem? (i := 402) (by decide +kernel)) rfl, ca_inT (List.mem_of_getElem? (i := 403) (by decide +kernel)) rfl, by decide +kernel⟩
set_option maxRecDepth 100000 in
theorem y0_X1_worthOf : ca_Y yX1_worthOf cX1_worthOf 2 (some .int) 1 := ⟨ca_inT (List.mem_of_getElem? (i := 411) rfl) rfl, w_in_X1, by decide +kernel, by decide⟩
theorem y_X1_worthOf : ca_YV yX1_worthOf cX1_worthOf 2 (some .int) 1 1 := ⟨y0_X1_worthOf, ca_inT (List.mem_of_getElem? (i := 409) (by decide +kernel)) rfl, ca_inT (List.mem_of_getElem? (i := 410) (by decide +kernel)) rfl, by decide +kernel⟩
set_option maxRecDepth 100000 in
theorem y0_X1_sharpOf : ca_Y yX1_sharpOf cX1_sharpOf 2 (some .int) 1 := ⟨ca_inT (List.mem_of_getElem? (i := 369) rfl) rfl, w_in_X1, by decide +kernel, by decide⟩
theorem y_X1_sharpOf : ca_YV yX1_sharpOf cX1_sharpOf 2 (some .int) 1 1 := ⟨y0_X1_sharpOf, ca_inT (List.mem_of_getElem? (i := 367) (by decide +kernel)) rfl, ca_inT (List.mem_of_getElem? (i := 368) (by decide +kernel)) rfl, by decide +kernel⟩
set_option maxRecDepth 100000 in
theorem y0_X1_knownBy : ca_Y yX1_knownBy cX1_knownBy 3 (some .int) 2 := ⟨ca_inT (List.mem_of_getElem? (i := 429) rfl) rfl, w_in_X1, by decide +kernel, by decide⟩
theorem y_X1_knownBy : ca_YV yX1_knownBy cX1_knownBy 3 (some .int) 2 1 := ⟨y0_X1_knownBy, ca_inT (List.mem_of_getElem? (i := 427) (by decide +kernel)) rfl, ca_inT (List.mem_of_getElem? (i := 428) (by decide +kernel)) rfl, by decide +kernel⟩
set_option maxRecDepth 100000 in
theorem y0_X1_put : ca_Y yX1_put cX1_put 4 none 3 := ⟨ca_inT (List.mem_of_getElem? (i := 333) rfl) rfl, w_in_X1, by decide +kernel, by decide⟩
theorem y_X1_put : ca_YV yX1_put cX1_put 4 none 3 1 := ⟨y0_X1_put, ca_inT (List.mem_of_getElem? (i := 331) (by decide +kernel)) rfl, ca_inT (List.mem_of_getElem? (i := 332) (by decide +kernel)) rfl, by decide +kernel⟩
set_option maxRecDepth 100000 in
theorem y0_X1_sharpen : ca_Y yX1_sharpen cX1_sharpen 3 none 2 := ⟨ca_inT (List.mem_of_getElem? (i := 344) rfl) rfl, w_in_X1, by decide +kernel, by decide⟩
theorem y_X1_sharpen : ca_YV yX1_sharpen cX1_sharpen 3 none 2 1 := ⟨y0_X1_sharpen, ca_inT (List.mem_of_getElem? (i := 342) (by decide +kernel)) rfl, ca_inT (List.mem_of_getElem? (i := 343) (by decide +kernel)) rfl, by decide +kernel⟩
set_option maxRecDepth 100000 in
theorem y0_X1_learn : ca_Y yX1_learn cX1_learn 4 none 3 := ⟨ca_inT (List.mem_of_getElem? (i := 352) rfl) rfl, w_in_X1, by decide +kernel, by decide⟩
theorem y_X1_learn : ca_YV yX1_learn cX1_learn 4 none 3 1 := ⟨y0_X1_learn, ca_inT (List.mem_of_getElem? (i := 350) (by decide +kernel)) rfl, ca_inT (List.mem_of_getElem? (i := 351) (by decide +kernel)) rfl, by decide +kernel⟩
set_option maxRecDepth 100000 in
theorem y0_X1_takeIn : ca_Y yX1_takeIn cX1_takeIn 4 (some .boolean) 1 := ⟨ca_inT (List.mem_of_getElem? (i := 340) rfl) rfl, w_in_X1, by decide +kernel, by decide⟩
theorem y_X1_takeIn : ca_YV yX1_takeIn cX1_takeIn 4 (some .boolean) 1 1 := ⟨y0_X1_takeIn, ca_inT (List.mem_of_getElem? (i := 338) (by decide +kernel)) rfl, ca_inT (List.mem_of_getElem? (i := 339) (by decide +kernel)) rfl, by decide +kernel⟩
set_option maxRecDepth 100000 in
theorem y0_X1_passNights : ca_Y yX1_passNights cX1_passNights 5 none 1 := ⟨ca_inT (List.mem_of_getElem? (i := 365) rfl) rfl, w_in_X1, by decide +kernel, by decide⟩
theorem y_X1_passNights : ca_YV yX1_passNights cX1_passNights 5 none 1 1 := ⟨y0_X1_passNights, ca_inT (List.mem_of_getElem? (i := 363) (by decide +kernel)) rfl, ca_inT (List.mem_of_getElem? (i := 364) (by decide +kernel)) rfl, by decide +kernel⟩
set_option maxRecDepth 100000 in
theorem y0_X1_forgetSome : ca_Y yX1_forgetSome cX1_forgetSome 4 none 1 := ⟨ca_inT (List.mem_of_getElem? (i := 373) rfl) rfl, w_in_X1, by decide +kernel, by decide⟩
theorem y_X1_forgetSome : ca_YV yX1_forgetSome cX1_forgetSome 4 none 1 1 := ⟨y0_X1_forgetSome, ca_inT (List.mem_of_getElem? (i := 372) (by decide +kernel)) rfl, ca_inT (List.mem_of_getElem? (i := 8) (by decide +kernel)) rfl, by decide +kernel⟩
set_option maxRecDepth 100000 in
theorem y0_X1_roomsSayableBy : ca_Y yX1_roomsSayableBy cX1_roomsSayableBy 4 (some .int) 1 := ⟨ca_inT (List.mem_of_getElem? (i := 458) rfl) rfl, w_in_X1, by decide +kernel, by decide⟩
theorem y_X1_roomsSayableBy : ca_YV yX1_roomsSayableBy cX1_roomsSayableBy 4 (some .int) 1 1 := ⟨y0_X1_roomsSayableBy, ca_inT (List.mem_of_getElem? (i := 456) (by decide +kernel)) rfl, ca_inT (List.mem_of_getElem? (i := 457) (by decide +kernel)) rfl, by decide +kernel⟩
set_option maxRecDepth 100000 in
theorem y0_X1_sureRooms : ca_Y yX1_sureRooms cX1_sureRooms 3 (some .int) 0 := ⟨ca_inT (List.mem_of_getElem? (i := 453) rfl) rfl, w_in_X1, by decide +kernel, by decide⟩
theorem y_X1_sureRooms : ca_YV yX1_sureRooms cX1_sureRooms 3 (some .int) 0 1 := ⟨y0_X1_sureRooms, ca_inT (List.mem_of_getElem? (i := 451) (by decide +kernel)) rfl, ca_inT (List.mem_of_getElem? (i := 452) (by decide +kernel)) rfl, by decide +kernel⟩
set_option maxRecDepth 100000 in
theorem y0_X1_somebodysRooms : ca_Y yX1_somebodysRooms cX1_somebodysRooms 3 (some .int) 0 := ⟨ca_inT (List.mem_of_getElem? (i := 651) rfl) rfl, w_in_X1, by decide +kernel, by decide⟩
theorem y_X1_somebodysRooms : ca_YV yX1_somebodysRooms cX1_somebodysRooms 3 (some .int) 0 1 := ⟨y0_X1_somebodysRooms, ca_inT (List.mem_of_getElem? (i := 649) (by decide +kernel)) rfl, ca_inT (List.mem_of_getElem? (i := 650) (by decide +kernel)) rfl, by decide +kernel⟩
set_option maxRecDepth 100000 in
theorem y0_X1_allWorth : ca_Y yX1_allWorth cX1_allWorth 3 (some .int) 0 := ⟨ca_inT (List.mem_of_getElem? (i := 724) rfl) rfl, w_in_X1, by decide +kernel, by decide⟩
theorem y_X1_allWorth : ca_YV yX1_allWorth cX1_allWorth 3 (some .int) 0 1 := ⟨y0_X1_allWorth, ca_inT (List.mem_of_getElem? (i := 722) (by decide +kernel)) rfl, ca_inT (List.mem_of_getElem? (i := 723) (by decide +kernel)) rfl, by decide +kernel⟩
set_option maxRecDepth 100000 in
theorem y0_X1_walls : ca_Y yX1_walls cX1_walls 3 (some .int) 0 := ⟨ca_inT (List.mem_of_getElem? (i := 729) rfl) rfl, w_in_X1, by decide +kernel, by decide⟩
theorem y_X1_walls : ca_YV yX1_walls cX1_walls 3 (some .int) 0 1 := ⟨y0_X1_walls, ca_inT (List.mem_of_getElem? (i := 727) (by decide +kernel)) rfl, ca_inT (List.mem_of_getElem? (i := 728) (by decide +kernel)) rfl, by decide +kernel⟩
set_option maxRecDepth 100000 in
theorem y0_X1_allKnown : ca_Y yX1_allKnown cX1_allKnown 4 (some .int) 0 := ⟨ca_inT (List.mem_of_getElem? (i := 733) rfl) rfl, w_in_X1, by decide +kernel, by decide⟩
theorem y_X1_allKnown : ca_YV yX1_allKnown cX1_allKnown 4 (some .int) 0 1 := ⟨y0_X1_allKnown, ca_inT (List.mem_of_getElem? (i := 731) (by decide +kernel)) rfl, ca_inT (List.mem_of_getElem? (i := 732) (by decide +kernel)) rfl, by decide +kernel⟩
set_option maxRecDepth 100000 in
theorem y0_X2_needs : ca_Y yX2_needs cX2_needs 1 (some .int) 1 := ⟨ca_inT (List.mem_of_getElem? (i := 400) rfl) rfl, w_in_X2, by decide +kernel, by decide⟩
theorem y_X2_needs : ca_YS yX2_needs cX2_needs 1 (some .int) 1 := ⟨y0_X2_needs, ca_inT (List.mem_of_getElem? (i := 399) (by decide +kernel)) rfl⟩
set_option maxRecDepth 100000 in
theorem y0_X2_catches : ca_Y yX2_catches cX2_catches 1 (some .int) 1 := ⟨ca_inT (List.mem_of_getElem? (i := 407) rfl) rfl, w_in_X2, by decide +kernel, by decide⟩
theorem y_X2_catches : ca_YS yX2_catches cX2_catches 1 (some .int) 1 := ⟨y0_X2_catches, ca_inT (List.mem_of_getElem? (i := 406) (by decide +kernel)) rfl⟩
set_option maxRecDepth 100000 in
theorem y0_X2_worth : ca_Y yX2_worth cX2_worth 2 (some .int) 2 := ⟨ca_inT (List.mem_of_getElem? (i := 415) rfl) rfl, w_in_X2, by decide +kernel, by decide⟩
theorem y_X2_worth : ca_YS yX2_worth cX2_worth 2 (some .int) 2 := ⟨y0_X2_worth, ca_inT (List.mem_of_getElem? (i := 414) (by decide +kernel)) rfl⟩
set_option maxRecDepth 100000 in
theorem y0_X3_init : ca_Y yX3_init cX3_init 2 none 1 := ⟨ca_inT (List.mem_of_getElem? (i := 157) rfl) rfl, w_in_X3, by decide +kernel, by decide⟩
theorem y_X3_init : ca_YI yX3_init cX3_init 2 1 := ⟨y0_X3_init, rfl, ca_inT (List.mem_of_getElem? (i := 156) (by decide +kernel)) rfl⟩
set_option maxRecDepth 100000 in
theorem y0_X3_isFull : ca_Y yX3_isFull cX3_isFull 1 (some .boolean) 0 := ⟨ca_inT (List.mem_of_getElem? (i := 214) rfl) rfl, w_in_X3, by decide +kernel, by decide⟩
theorem y_X3_isFull : ca_YV yX3_isFull cX3_isFull 1 (some .boolean) 0 2 := ⟨y0_X3_isFull, ca_inT (List.mem_of_getElem? (i := 212) (by decide +kernel)) rfl, ca_inT (List.mem_of_getElem? (i := 213) (by decide +kernel)) rfl, by decide +kernel⟩
set_option maxRecDepth 100000 in
theorem y0_X3_add : ca_Y yX3_add cX3_add 2 (some .int) 1 := ⟨ca_inT (List.mem_of_getElem? (i := 218) rfl) rfl, w_in_X3, by decide +kernel, by decide⟩
theorem y_X3_add : ca_YV yX3_add cX3_add 2 (some .int) 1 2 := ⟨y0_X3_add, ca_inT (List.mem_of_getElem? (i := 216) (by decide +kernel)) rfl, ca_inT (List.mem_of_getElem? (i := 217) (by decide +kernel)) rfl, by decide +kernel⟩
set_option maxRecDepth 100000 in
theorem y0_X3_at : ca_Y yX3_at cX3_at 2 (some .int) 1 := ⟨ca_inT (List.mem_of_getElem? (i := 241) rfl) rfl, w_in_X3, by decide +kernel, by decide⟩
theorem y_X3_at : ca_YV yX3_at cX3_at 2 (some .int) 1 2 := ⟨y0_X3_at, ca_inT (List.mem_of_getElem? (i := 239) (by decide +kernel)) rfl, ca_inT (List.mem_of_getElem? (i := 240) (by decide +kernel)) rfl, by decide +kernel⟩
set_option maxRecDepth 100000 in
theorem y0_X3_forget : ca_Y yX3_forget cX3_forget 1 none 0 := ⟨ca_inT (List.mem_of_getElem? (i := 378) rfl) rfl, w_in_X3, by decide +kernel, by decide⟩
theorem y_X3_forget : ca_YV yX3_forget cX3_forget 1 none 0 2 := ⟨y0_X3_forget, ca_inT (List.mem_of_getElem? (i := 376) (by decide +kernel)) rfl, ca_inT (List.mem_of_getElem? (i := 377) (by decide +kernel)) rfl, by decide +kernel⟩
set_option maxRecDepth 100000 in
theorem y0_X4_init : ca_Y yX4_init cX4_init 1 none 0 := ⟨ca_inT (List.mem_of_getElem? (i := 151) rfl) rfl, w_in_X4, by decide +kernel, by decide⟩
theorem y_X4_init : ca_YI yX4_init cX4_init 1 0 := ⟨y0_X4_init, rfl, ca_inT (List.mem_of_getElem? (i := 150) (by decide +kernel)) rfl⟩
set_option maxRecDepth 100000 in
theorem y0_X4_tellTo : ca_Y yX4_tellTo cX4_tellTo 5 (some .int) 1 := ⟨ca_inT (List.mem_of_getElem? (i := 233) rfl) rfl, w_in_X4, by decide +kernel, by decide⟩
theorem y_X4_tellTo : ca_YV yX4_tellTo cX4_tellTo 5 (some .int) 1 3 := ⟨y0_X4_tellTo, ca_inT (List.mem_of_getElem? (i := 231) (by decide +kernel)) rfl, ca_inT (List.mem_of_getElem? (i := 232) (by decide +kernel)) rfl, by decide +kernel⟩
set_option maxRecDepth 100000 in
theorem y0_X4_firstStray : ca_Y yX4_firstStray cX4_firstStray 5 (some .int) 0 := ⟨ca_inT (List.mem_of_getElem? (i := 237) rfl) rfl, w_in_X4, by decide +kernel, by decide⟩
theorem y_X4_firstStray : ca_YV yX4_firstStray cX4_firstStray 5 (some .int) 0 3 := ⟨y0_X4_firstStray, ca_inT (List.mem_of_getElem? (i := 236) (by decide +kernel)) rfl, ca_inT (List.mem_of_getElem? (i := 1) (by decide +kernel)) rfl, by decide +kernel⟩
set_option maxRecDepth 100000 in
theorem y0_X4_fittingLetters : ca_Y yX4_fittingLetters cX4_fittingLetters 4 (some .int) 2 := ⟨ca_inT (List.mem_of_getElem? (i := 254) rfl) rfl, w_in_X4, by decide +kernel, by decide⟩
theorem y_X4_fittingLetters : ca_YV yX4_fittingLetters cX4_fittingLetters 4 (some .int) 2 3 := ⟨y0_X4_fittingLetters, ca_inT (List.mem_of_getElem? (i := 253) (by decide +kernel)) rfl, ca_inT (List.mem_of_getElem? (i := 2) (by decide +kernel)) rfl, by decide +kernel⟩
set_option maxRecDepth 100000 in
theorem y0_X4_fits : ca_Y yX4_fits cX4_fits 2 (some .boolean) 2 := ⟨ca_inT (List.mem_of_getElem? (i := 305) rfl) rfl, w_in_X4, by decide +kernel, by decide⟩
theorem y_X4_fits : ca_YS yX4_fits cX4_fits 2 (some .boolean) 2 := ⟨y0_X4_fits, ca_inT (List.mem_of_getElem? (i := 304) (by decide +kernel)) rfl⟩
set_option maxRecDepth 100000 in
theorem y0_X4_formOf : ca_Y yX4_formOf cX4_formOf 1 (some (.object "java/lang/String")) 1 := ⟨ca_inT (List.mem_of_getElem? (i := 244) rfl) rfl, w_in_X4, by decide +kernel, by decide⟩
theorem y_X4_formOf : ca_YS yX4_formOf cX4_formOf 1 (some (.object "java/lang/String")) 1 := ⟨y0_X4_formOf, ca_inT (List.mem_of_getElem? (i := 243) (by decide +kernel)) rfl⟩
set_option maxRecDepth 100000 in
theorem y0_X4_tellStatement : ca_Y yX4_tellStatement cX4_tellStatement 3 (some .boolean) 2 := ⟨ca_inT (List.mem_of_getElem? (i := 317) rfl) rfl, w_in_X4, by decide +kernel, by decide⟩
theorem y_X4_tellStatement : ca_YV yX4_tellStatement cX4_tellStatement 3 (some .boolean) 2 3 := ⟨y0_X4_tellStatement, ca_inT (List.mem_of_getElem? (i := 316) (by decide +kernel)) rfl, ca_inT (List.mem_of_getElem? (i := 3) (by decide +kernel)) rfl, by decide +kernel⟩
set_option maxRecDepth 100000 in
theorem y0_X4_tellThings : ca_Y yX4_tellThings cX4_tellThings 8 (some .boolean) 4 := ⟨ca_inT (List.mem_of_getElem? (i := 329) rfl) rfl, w_in_X4, by decide +kernel, by decide⟩
theorem y_X4_tellThings : ca_YV yX4_tellThings cX4_tellThings 8 (some .boolean) 4 3 := ⟨y0_X4_tellThings, ca_inT (List.mem_of_getElem? (i := 328) (by decide +kernel)) rfl, ca_inT (List.mem_of_getElem? (i := 6) (by decide +kernel)) rfl, by decide +kernel⟩
set_option maxRecDepth 100000 in
theorem y0_X4_tellKnown : ca_Y yX4_tellKnown cX4_tellKnown 7 (some .boolean) 2 := ⟨ca_inT (List.mem_of_getElem? (i := 356) rfl) rfl, w_in_X4, by decide +kernel, by decide⟩
theorem y_X4_tellKnown : ca_YV yX4_tellKnown cX4_tellKnown 7 (some .boolean) 2 3 := ⟨y0_X4_tellKnown, ca_inT (List.mem_of_getElem? (i := 355) (by decide +kernel)) rfl, ca_inT (List.mem_of_getElem? (i := 7) (by decide +kernel)) rfl, by decide +kernel⟩
set_option maxRecDepth 100000 in
theorem y0_X4_tellNights : ca_Y yX4_tellNights cX4_tellNights 2 (some .boolean) 2 := ⟨ca_inT (List.mem_of_getElem? (i := 361) rfl) rfl, w_in_X4, by decide +kernel, by decide⟩
theorem y_X4_tellNights : ca_YS yX4_tellNights cX4_tellNights 2 (some .boolean) 2 := ⟨y0_X4_tellNights, ca_inT (List.mem_of_getElem? (i := 360) (by decide +kernel)) rfl⟩
set_option maxRecDepth 100000 in
theorem y0_X4_kindOfLetter : ca_Y yX4_kindOfLetter cX4_kindOfLetter 2 (some .int) 1 := ⟨ca_inT (List.mem_of_getElem? (i := 308) rfl) rfl, w_in_X4, by decide +kernel, by decide⟩
theorem y_X4_kindOfLetter : ca_YS yX4_kindOfLetter cX4_kindOfLetter 2 (some .int) 1 := ⟨y0_X4_kindOfLetter, ca_inT (List.mem_of_getElem? (i := 307) (by decide +kernel)) rfl⟩
set_option maxRecDepth 100000 in
theorem y0_X4_digitAt : ca_Y yX4_digitAt cX4_digitAt 2 (some .int) 1 := ⟨ca_inT (List.mem_of_getElem? (i := 325) rfl) rfl, w_in_X4, by decide +kernel, by decide⟩
theorem y_X4_digitAt : ca_YV yX4_digitAt cX4_digitAt 2 (some .int) 1 3 := ⟨y0_X4_digitAt, ca_inT (List.mem_of_getElem? (i := 324) (by decide +kernel)) rfl, ca_inT (List.mem_of_getElem? (i := 5) (by decide +kernel)) rfl, by decide +kernel⟩
set_option maxRecDepth 100000 in
theorem y0_X4_pairAt : ca_Y yX4_pairAt cX4_pairAt 2 (some .int) 1 := ⟨ca_inT (List.mem_of_getElem? (i := 321) rfl) rfl, w_in_X4, by decide +kernel, by decide⟩
theorem y_X4_pairAt : ca_YV yX4_pairAt cX4_pairAt 2 (some .int) 1 3 := ⟨y0_X4_pairAt, ca_inT (List.mem_of_getElem? (i := 320) (by decide +kernel)) rfl, ca_inT (List.mem_of_getElem? (i := 4) (by decide +kernel)) rfl, by decide +kernel⟩
set_option maxRecDepth 100000 in
theorem y0_X5_init : ca_Y yX5_init cX5_init 1 none 0 := ⟨ca_inT (List.mem_of_getElem? (i := 65) rfl) rfl, w_in_X5, by decide +kernel, by decide⟩
theorem y_X5_init : ca_YI yX5_init cX5_init 1 0 := ⟨y0_X5_init, rfl, ca_inT (List.mem_of_getElem? (i := 64) (by decide +kernel)) rfl⟩
set_option maxRecDepth 100000 in
theorem y0_X5_letter : ca_Y yX5_letter cX5_letter 2 (some .int) 1 := ⟨ca_inT (List.mem_of_getElem? (i := 206) rfl) rfl, w_in_X5, by decide +kernel, by decide⟩
theorem y_X5_letter : ca_YV yX5_letter cX5_letter 2 (some .int) 1 4 := ⟨y0_X5_letter, ca_inT (List.mem_of_getElem? (i := 204) (by decide +kernel)) rfl, ca_inT (List.mem_of_getElem? (i := 205) (by decide +kernel)) rfl, by decide +kernel⟩
set_option maxRecDepth 100000 in
theorem y0_X5_house : ca_Y yX5_house cX5_house 2 (some .int) 0 := ⟨ca_inT (List.mem_of_getElem? (i := 222) rfl) rfl, w_in_X5, by decide +kernel, by decide⟩
theorem y_X5_house : ca_YV yX5_house cX5_house 2 (some .int) 0 4 := ⟨y0_X5_house, ca_inT (List.mem_of_getElem? (i := 220) (by decide +kernel)) rfl, ca_inT (List.mem_of_getElem? (i := 221) (by decide +kernel)) rfl, by decide +kernel⟩
set_option maxRecDepth 100000 in
theorem y0_X5_room : ca_Y yX5_room cX5_room 3 (some .int) 2 := ⟨ca_inT (List.mem_of_getElem? (i := 383) rfl) rfl, w_in_X5, by decide +kernel, by decide⟩
theorem y_X5_room : ca_YV yX5_room cX5_room 3 (some .int) 2 4 := ⟨y0_X5_room, ca_inT (List.mem_of_getElem? (i := 381) (by decide +kernel)) rfl, ca_inT (List.mem_of_getElem? (i := 382) (by decide +kernel)) rfl, by decide +kernel⟩
set_option maxRecDepth 100000 in
theorem y0_X5_person : ca_Y yX5_person cX5_person 3 (some .int) 2 := ⟨ca_inT (List.mem_of_getElem? (i := 419) rfl) rfl, w_in_X5, by decide +kernel, by decide⟩
theorem y_X5_person : ca_YV yX5_person cX5_person 3 (some .int) 2 4 := ⟨y0_X5_person, ca_inT (List.mem_of_getElem? (i := 417) (by decide +kernel)) rfl, ca_inT (List.mem_of_getElem? (i := 418) (by decide +kernel)) rfl, by decide +kernel⟩
set_option maxRecDepth 100000 in
theorem y0_X5_turn : ca_Y yX5_turn cX5_turn 5 (some .int) 3 := ⟨ca_inT (List.mem_of_getElem? (i := 433) rfl) rfl, w_in_X5, by decide +kernel, by decide⟩
theorem y_X5_turn : ca_YV yX5_turn cX5_turn 5 (some .int) 3 4 := ⟨y0_X5_turn, ca_inT (List.mem_of_getElem? (i := 431) (by decide +kernel)) rfl, ca_inT (List.mem_of_getElem? (i := 432) (by decide +kernel)) rfl, by decide +kernel⟩
set_option maxRecDepth 100000 in
theorem y0_X5_sharp : ca_Y yX5_sharp cX5_sharp 4 (some .int) 2 := ⟨ca_inT (List.mem_of_getElem? (i := 438) rfl) rfl, w_in_X5, by decide +kernel, by decide⟩
theorem y_X5_sharp : ca_YV yX5_sharp cX5_sharp 4 (some .int) 2 4 := ⟨y0_X5_sharp, ca_inT (List.mem_of_getElem? (i := 436) (by decide +kernel)) rfl, ca_inT (List.mem_of_getElem? (i := 437) (by decide +kernel)) rfl, by decide +kernel⟩
set_option maxRecDepth 100000 in
theorem y0_X5_visit : ca_Y yX5_visit cX5_visit 5 (some .int) 3 := ⟨ca_inT (List.mem_of_getElem? (i := 443) rfl) rfl, w_in_X5, by decide +kernel, by decide⟩
theorem y_X5_visit : ca_YV yX5_visit cX5_visit 5 (some .int) 3 4 := ⟨y0_X5_visit, ca_inT (List.mem_of_getElem? (i := 441) (by decide +kernel)) rfl, ca_inT (List.mem_of_getElem? (i := 442) (by decide +kernel)) rfl, by decide +kernel⟩
set_option maxRecDepth 100000 in
theorem y0_X5_nights : ca_Y yX5_nights cX5_nights 2 (some .int) 1 := ⟨ca_inT (List.mem_of_getElem? (i := 448) rfl) rfl, w_in_X5, by decide +kernel, by decide⟩
theorem y_X5_nights : ca_YV yX5_nights cX5_nights 2 (some .int) 1 4 := ⟨y0_X5_nights, ca_inT (List.mem_of_getElem? (i := 446) (by decide +kernel)) rfl, ca_inT (List.mem_of_getElem? (i := 447) (by decide +kernel)) rfl, by decide +kernel⟩
set_option maxRecDepth 100000 in
theorem y0_X5_fire : ca_Y yX5_fire cX5_fire 4 (some .int) 3 := ⟨ca_inT (List.mem_of_getElem? (i := 468) rfl) rfl, w_in_X5, by decide +kernel, by decide⟩
theorem y_X5_fire : ca_YV yX5_fire cX5_fire 4 (some .int) 3 4 := ⟨y0_X5_fire, ca_inT (List.mem_of_getElem? (i := 466) (by decide +kernel)) rfl, ca_inT (List.mem_of_getElem? (i := 467) (by decide +kernel)) rfl, by decide +kernel⟩
set_option maxRecDepth 100000 in
theorem y0_X5_burns : ca_Y yX5_burns cX5_burns 4 (some .int) 3 := ⟨ca_inT (List.mem_of_getElem? (i := 555) rfl) rfl, w_in_X5, by decide +kernel, by decide⟩
theorem y_X5_burns : ca_YV yX5_burns cX5_burns 4 (some .int) 3 4 := ⟨y0_X5_burns, ca_inT (List.mem_of_getElem? (i := 553) (by decide +kernel)) rfl, ca_inT (List.mem_of_getElem? (i := 554) (by decide +kernel)) rfl, by decide +kernel⟩
set_option maxRecDepth 100000 in
theorem y0_X5_said : ca_Y yX5_said cX5_said 6 (some .int) 4 := ⟨ca_inT (List.mem_of_getElem? (i := 563) rfl) rfl, w_in_X5, by decide +kernel, by decide⟩
theorem y_X5_said : ca_YV yX5_said cX5_said 6 (some .int) 4 4 := ⟨y0_X5_said, ca_inT (List.mem_of_getElem? (i := 561) (by decide +kernel)) rfl, ca_inT (List.mem_of_getElem? (i := 562) (by decide +kernel)) rfl, by decide +kernel⟩
set_option maxRecDepth 100000 in
theorem y0_X5_talker : ca_Y yX5_talker cX5_talker 7 (some .int) 2 := ⟨ca_inT (List.mem_of_getElem? (i := 576) rfl) rfl, w_in_X5, by decide +kernel, by decide⟩
theorem y_X5_talker : ca_YV yX5_talker cX5_talker 7 (some .int) 2 4 := ⟨y0_X5_talker, ca_inT (List.mem_of_getElem? (i := 574) (by decide +kernel)) rfl, ca_inT (List.mem_of_getElem? (i := 575) (by decide +kernel)) rfl, by decide +kernel⟩
set_option maxRecDepth 100000 in
theorem y0_X5_alone : ca_Y yX5_alone cX5_alone 2 (some .int) 1 := ⟨ca_inT (List.mem_of_getElem? (i := 584) rfl) rfl, w_in_X5, by decide +kernel, by decide⟩
theorem y_X5_alone : ca_YV yX5_alone cX5_alone 2 (some .int) 1 4 := ⟨y0_X5_alone, ca_inT (List.mem_of_getElem? (i := 582) (by decide +kernel)) rfl, ca_inT (List.mem_of_getElem? (i := 583) (by decide +kernel)) rfl, by decide +kernel⟩
set_option maxRecDepth 100000 in
theorem y0_X5_bestSpeaker : ca_Y yX5_bestSpeaker cX5_bestSpeaker 2 (some .int) 1 := ⟨ca_inT (List.mem_of_getElem? (i := 593) rfl) rfl, w_in_X5, by decide +kernel, by decide⟩
theorem y_X5_bestSpeaker : ca_YV yX5_bestSpeaker cX5_bestSpeaker 2 (some .int) 1 4 := ⟨y0_X5_bestSpeaker, ca_inT (List.mem_of_getElem? (i := 591) (by decide +kernel)) rfl, ca_inT (List.mem_of_getElem? (i := 592) (by decide +kernel)) rfl, by decide +kernel⟩
set_option maxRecDepth 100000 in
theorem y0_X5_worstRoom : ca_Y yX5_worstRoom cX5_worstRoom 5 (some .int) 0 := ⟨ca_inT (List.mem_of_getElem? (i := 606) rfl) rfl, w_in_X5, by decide +kernel, by decide⟩
theorem y_X5_worstRoom : ca_YV yX5_worstRoom cX5_worstRoom 5 (some .int) 0 4 := ⟨y0_X5_worstRoom, ca_inT (List.mem_of_getElem? (i := 604) (by decide +kernel)) rfl, ca_inT (List.mem_of_getElem? (i := 605) (by decide +kernel)) rfl, by decide +kernel⟩
set_option maxRecDepth 100000 in
theorem y0_X5_show : ca_Y yX5_show cX5_show 7 (some .int) 2 := ⟨ca_inT (List.mem_of_getElem? (i := 610) rfl) rfl, w_in_X5, by decide +kernel, by decide⟩
theorem y_X5_show : ca_YV yX5_show cX5_show 7 (some .int) 2 4 := ⟨y0_X5_show, ca_inT (List.mem_of_getElem? (i := 608) (by decide +kernel)) rfl, ca_inT (List.mem_of_getElem? (i := 609) (by decide +kernel)) rfl, by decide +kernel⟩
set_option maxRecDepth 100000 in
theorem y0_X5_mayWait : ca_Y yX5_mayWait cX5_mayWait 4 (some .int) 1 := ⟨ca_inT (List.mem_of_getElem? (i := 618) rfl) rfl, w_in_X5, by decide +kernel, by decide⟩
theorem y_X5_mayWait : ca_YV yX5_mayWait cX5_mayWait 4 (some .int) 1 4 := ⟨y0_X5_mayWait, ca_inT (List.mem_of_getElem? (i := 616) (by decide +kernel)) rfl, ca_inT (List.mem_of_getElem? (i := 617) (by decide +kernel)) rfl, by decide +kernel⟩
set_option maxRecDepth 100000 in
theorem y0_X5_leftOut : ca_Y yX5_leftOut cX5_leftOut 7 (some .int) 1 := ⟨ca_inT (List.mem_of_getElem? (i := 622) rfl) rfl, w_in_X5, by decide +kernel, by decide⟩
theorem y_X5_leftOut : ca_YV yX5_leftOut cX5_leftOut 7 (some .int) 1 4 := ⟨y0_X5_leftOut, ca_inT (List.mem_of_getElem? (i := 620) (by decide +kernel)) rfl, ca_inT (List.mem_of_getElem? (i := 621) (by decide +kernel)) rfl, by decide +kernel⟩
set_option maxRecDepth 100000 in
theorem y0_X5_enough : ca_Y yX5_enough cX5_enough 6 (some .int) 1 := ⟨ca_inT (List.mem_of_getElem? (i := 626) rfl) rfl, w_in_X5, by decide +kernel, by decide⟩
theorem y_X5_enough : ca_YV yX5_enough cX5_enough 6 (some .int) 1 4 := ⟨y0_X5_enough, ca_inT (List.mem_of_getElem? (i := 624) (by decide +kernel)) rfl, ca_inT (List.mem_of_getElem? (i := 625) (by decide +kernel)) rfl, by decide +kernel⟩
set_option maxRecDepth 100000 in
theorem y0_X5_wall : ca_Y yX5_wall cX5_wall 6 (some .int) 1 := ⟨ca_inT (List.mem_of_getElem? (i := 631) rfl) rfl, w_in_X5, by decide +kernel, by decide⟩
theorem y_X5_wall : ca_YV yX5_wall cX5_wall 6 (some .int) 1 4 := ⟨y0_X5_wall, ca_inT (List.mem_of_getElem? (i := 629) (by decide +kernel)) rfl, ca_inT (List.mem_of_getElem? (i := 630) (by decide +kernel)) rfl, by decide +kernel⟩
set_option maxRecDepth 100000 in
theorem y0_X5_captain : ca_Y yX5_captain cX5_captain 5 (some .int) 3 := ⟨ca_inT (List.mem_of_getElem? (i := 635) rfl) rfl, w_in_X5, by decide +kernel, by decide⟩
theorem y_X5_captain : ca_YV yX5_captain cX5_captain 5 (some .int) 3 4 := ⟨y0_X5_captain, ca_inT (List.mem_of_getElem? (i := 633) (by decide +kernel)) rfl, ca_inT (List.mem_of_getElem? (i := 634) (by decide +kernel)) rfl, by decide +kernel⟩
set_option maxRecDepth 100000 in
theorem y0_X5_unlike : ca_Y yX5_unlike cX5_unlike 5 (some .int) 3 := ⟨ca_inT (List.mem_of_getElem? (i := 639) rfl) rfl, w_in_X5, by decide +kernel, by decide⟩
theorem y_X5_unlike : ca_YV yX5_unlike cX5_unlike 5 (some .int) 3 4 := ⟨y0_X5_unlike, ca_inT (List.mem_of_getElem? (i := 637) (by decide +kernel)) rfl, ca_inT (List.mem_of_getElem? (i := 638) (by decide +kernel)) rfl, by decide +kernel⟩
set_option maxRecDepth 100000 in
theorem y0_X5_sure : ca_Y yX5_sure cX5_sure 2 (some .int) 1 := ⟨ca_inT (List.mem_of_getElem? (i := 647) rfl) rfl, w_in_X5, by decide +kernel, by decide⟩
theorem y_X5_sure : ca_YV yX5_sure cX5_sure 2 (some .int) 1 4 := ⟨y0_X5_sure, ca_inT (List.mem_of_getElem? (i := 645) (by decide +kernel)) rfl, ca_inT (List.mem_of_getElem? (i := 646) (by decide +kernel)) rfl, by decide +kernel⟩
set_option maxRecDepth 100000 in
theorem y0_X5_slip : ca_Y yX5_slip cX5_slip 12 (some .long) 5 := ⟨ca_inT (List.mem_of_getElem? (i := 655) rfl) rfl, w_in_X5, by decide +kernel, by decide⟩
theorem y_X5_slip : ca_YV yX5_slip cX5_slip 12 (some .long) 5 4 := ⟨y0_X5_slip, ca_inT (List.mem_of_getElem? (i := 653) (by decide +kernel)) rfl, ca_inT (List.mem_of_getElem? (i := 654) (by decide +kernel)) rfl, by decide +kernel⟩
set_option maxRecDepth 100000 in
theorem y0_X5_whatWas : ca_Y yX5_whatWas cX5_whatWas 7 (some .int) 3 := ⟨ca_inT (List.mem_of_getElem? (i := 674) rfl) rfl, w_in_X5, by decide +kernel, by decide⟩
theorem y_X5_whatWas : ca_YV yX5_whatWas cX5_whatWas 7 (some .int) 3 4 := ⟨y0_X5_whatWas, ca_inT (List.mem_of_getElem? (i := 672) (by decide +kernel)) rfl, ca_inT (List.mem_of_getElem? (i := 673) (by decide +kernel)) rfl, by decide +kernel⟩
set_option maxRecDepth 100000 in
theorem y0_X5_row : ca_Y yX5_row cX5_row 2 (some .int) 1 := ⟨ca_inT (List.mem_of_getElem? (i := 686) rfl) rfl, w_in_X5, by decide +kernel, by decide⟩
theorem y_X5_row : ca_YV yX5_row cX5_row 2 (some .int) 1 4 := ⟨y0_X5_row, ca_inT (List.mem_of_getElem? (i := 684) (by decide +kernel)) rfl, ca_inT (List.mem_of_getElem? (i := 685) (by decide +kernel)) rfl, by decide +kernel⟩
set_option maxRecDepth 100000 in
theorem y0_X5_judge : ca_Y yX5_judge cX5_judge 4 (some .int) 1 := ⟨ca_inT (List.mem_of_getElem? (i := 690) rfl) rfl, w_in_X5, by decide +kernel, by decide⟩
theorem y_X5_judge : ca_YV yX5_judge cX5_judge 4 (some .int) 1 4 := ⟨y0_X5_judge, ca_inT (List.mem_of_getElem? (i := 688) (by decide +kernel)) rfl, ca_inT (List.mem_of_getElem? (i := 689) (by decide +kernel)) rfl, by decide +kernel⟩
set_option maxRecDepth 100000 in
theorem y0_X5_clear : ca_Y yX5_clear cX5_clear 2 (some .int) 0 := ⟨ca_inT (List.mem_of_getElem? (i := 695) rfl) rfl, w_in_X5, by decide +kernel, by decide⟩
theorem y_X5_clear : ca_YV yX5_clear cX5_clear 2 (some .int) 0 4 := ⟨y0_X5_clear, ca_inT (List.mem_of_getElem? (i := 693) (by decide +kernel)) rfl, ca_inT (List.mem_of_getElem? (i := 694) (by decide +kernel)) rfl, by decide +kernel⟩
set_option maxRecDepth 100000 in
theorem y0_X5_lots : ca_Y yX5_lots cX5_lots 10 (some .int) 3 := ⟨ca_inT (List.mem_of_getElem? (i := 699) rfl) rfl, w_in_X5, by decide +kernel, by decide⟩
theorem y_X5_lots : ca_YV yX5_lots cX5_lots 10 (some .int) 3 4 := ⟨y0_X5_lots, ca_inT (List.mem_of_getElem? (i := 697) (by decide +kernel)) rfl, ca_inT (List.mem_of_getElem? (i := 698) (by decide +kernel)) rfl, by decide +kernel⟩
set_option maxRecDepth 100000 in
theorem y0_X5_image : ca_Y yX5_image cX5_image 1 (some .int) 0 := ⟨ca_inT (List.mem_of_getElem? (i := 712) rfl) rfl, w_in_X5, by decide +kernel, by decide⟩
theorem y_X5_image : ca_YV yX5_image cX5_image 1 (some .int) 0 4 := ⟨y0_X5_image, ca_inT (List.mem_of_getElem? (i := 710) (by decide +kernel)) rfl, ca_inT (List.mem_of_getElem? (i := 711) (by decide +kernel)) rfl, by decide +kernel⟩
set_option maxRecDepth 100000 in
theorem y0_X5_on : ca_Y yX5_on cX5_on 1 (some .int) 0 := ⟨ca_inT (List.mem_of_getElem? (i := 716) rfl) rfl, w_in_X5, by decide +kernel, by decide⟩
theorem y_X5_on : ca_YV yX5_on cX5_on 1 (some .int) 0 4 := ⟨y0_X5_on, ca_inT (List.mem_of_getElem? (i := 714) (by decide +kernel)) rfl, ca_inT (List.mem_of_getElem? (i := 715) (by decide +kernel)) rfl, by decide +kernel⟩
set_option maxRecDepth 100000 in
theorem y0_X5_count : ca_Y yX5_count cX5_count 2 (some .int) 1 := ⟨ca_inT (List.mem_of_getElem? (i := 720) rfl) rfl, w_in_X5, by decide +kernel, by decide⟩
theorem y_X5_count : ca_YV yX5_count cX5_count 2 (some .int) 1 4 := ⟨y0_X5_count, ca_inT (List.mem_of_getElem? (i := 718) (by decide +kernel)) rfl, ca_inT (List.mem_of_getElem? (i := 719) (by decide +kernel)) rfl, by decide +kernel⟩
set_option maxRecDepth 100000 in
theorem y0_X5_refuse : ca_Y yX5_refuse cX5_refuse 3 (some .int) 1 := ⟨ca_inT (List.mem_of_getElem? (i := 210) rfl) rfl, w_in_X5, by decide +kernel, by decide⟩
theorem y_X5_refuse : ca_YV yX5_refuse cX5_refuse 3 (some .int) 1 4 := ⟨y0_X5_refuse, ca_inT (List.mem_of_getElem? (i := 209) (by decide +kernel)) rfl, ca_inT (List.mem_of_getElem? (i := 0) (by decide +kernel)) rfl, by decide +kernel⟩
set_option maxRecDepth 100000 in
theorem y0_X5_refuseLong : ca_Y yX5_refuseLong cX5_refuseLong 2 (some .long) 1 := ⟨ca_inT (List.mem_of_getElem? (i := 659) rfl) rfl, w_in_X5, by decide +kernel, by decide⟩
theorem y_X5_refuseLong : ca_YV yX5_refuseLong cX5_refuseLong 2 (some .long) 1 4 := ⟨y0_X5_refuseLong, ca_inT (List.mem_of_getElem? (i := 658) (by decide +kernel)) rfl, ca_inT (List.mem_of_getElem? (i := 22) (by decide +kernel)) rfl, by decide +kernel⟩
set_option maxRecDepth 100000 in
theorem y0_X5_isRoom : ca_Y yX5_isRoom cX5_isRoom 1 (some .boolean) 1 := ⟨ca_inT (List.mem_of_getElem? (i := 336) rfl) rfl, w_in_X5, by decide +kernel, by decide⟩
theorem y_X5_isRoom : ca_YS yX5_isRoom cX5_isRoom 1 (some .boolean) 1 := ⟨y0_X5_isRoom, ca_inT (List.mem_of_getElem? (i := 335) (by decide +kernel)) rfl⟩
set_option maxRecDepth 100000 in
theorem y0_X5_isPerson : ca_Y yX5_isPerson cX5_isPerson 2 (some .boolean) 1 := ⟨ca_inT (List.mem_of_getElem? (i := 423) rfl) rfl, w_in_X5, by decide +kernel, by decide⟩
theorem y_X5_isPerson : ca_YV yX5_isPerson cX5_isPerson 2 (some .boolean) 1 4 := ⟨y0_X5_isPerson, ca_inT (List.mem_of_getElem? (i := 422) (by decide +kernel)) rfl, ca_inT (List.mem_of_getElem? (i := 9) (by decide +kernel)) rfl, by decide +kernel⟩
set_option maxRecDepth 100000 in
theorem y0_X5_isSpeaker : ca_Y yX5_isSpeaker cX5_isSpeaker 2 (some .boolean) 1 := ⟨ca_inT (List.mem_of_getElem? (i := 472) rfl) rfl, w_in_X5, by decide +kernel, by decide⟩
theorem y_X5_isSpeaker : ca_YV yX5_isSpeaker cX5_isSpeaker 2 (some .boolean) 1 4 := ⟨y0_X5_isSpeaker, ca_inT (List.mem_of_getElem? (i := 471) (by decide +kernel)) rfl, ca_inT (List.mem_of_getElem? (i := 10) (by decide +kernel)) rfl, by decide +kernel⟩
set_option maxRecDepth 100000 in
theorem y0_X5_burnAsNow : ca_Y yX5_burnAsNow cX5_burnAsNow 3 none 2 := ⟨ca_inT (List.mem_of_getElem? (i := 476) rfl) rfl, w_in_X5, by decide +kernel, by decide⟩
theorem y_X5_burnAsNow : ca_YV yX5_burnAsNow cX5_burnAsNow 3 none 2 4 := ⟨y0_X5_burnAsNow, ca_inT (List.mem_of_getElem? (i := 475) (by decide +kernel)) rfl, ca_inT (List.mem_of_getElem? (i := 11) (by decide +kernel)) rfl, by decide +kernel⟩
set_option maxRecDepth 100000 in
theorem y0_X5_worthIn : ca_Y yX5_worthIn cX5_worthIn 3 (some .int) 2 := ⟨ca_inT (List.mem_of_getElem? (i := 614) rfl) rfl, w_in_X5, by decide +kernel, by decide⟩
theorem y_X5_worthIn : ca_YV yX5_worthIn cX5_worthIn 3 (some .int) 2 4 := ⟨y0_X5_worthIn, ca_inT (List.mem_of_getElem? (i := 613) (by decide +kernel)) rfl, ca_inT (List.mem_of_getElem? (i := 21) (by decide +kernel)) rfl, by decide +kernel⟩
set_option maxRecDepth 100000 in
theorem y0_X5_worthBy : ca_Y yX5_worthBy cX5_worthBy 3 (some .int) 2 := ⟨ca_inT (List.mem_of_getElem? (i := 601) rfl) rfl, w_in_X5, by decide +kernel, by decide⟩
theorem y_X5_worthBy : ca_YV yX5_worthBy cX5_worthBy 3 (some .int) 2 4 := ⟨y0_X5_worthBy, ca_inT (List.mem_of_getElem? (i := 600) (by decide +kernel)) rfl, ca_inT (List.mem_of_getElem? (i := 20) (by decide +kernel)) rfl, by decide +kernel⟩
set_option maxRecDepth 100000 in
theorem y0_X5_worthWithOnly : ca_Y yX5_worthWithOnly cX5_worthWithOnly 3 (some .int) 2 := ⟨ca_inT (List.mem_of_getElem? (i := 588) rfl) rfl, w_in_X5, by decide +kernel, by decide⟩
theorem y_X5_worthWithOnly : ca_YV yX5_worthWithOnly cX5_worthWithOnly 3 (some .int) 2 4 := ⟨y0_X5_worthWithOnly, ca_inT (List.mem_of_getElem? (i := 587) (by decide +kernel)) rfl, ca_inT (List.mem_of_getElem? (i := 18) (by decide +kernel)) rfl, by decide +kernel⟩
set_option maxRecDepth 100000 in
theorem y0_X5_bestAgainst : ca_Y yX5_bestAgainst cX5_bestAgainst 7 (some .int) 2 := ⟨ca_inT (List.mem_of_getElem? (i := 597) rfl) rfl, w_in_X5, by decide +kernel, by decide⟩
theorem y_X5_bestAgainst : ca_YV yX5_bestAgainst cX5_bestAgainst 7 (some .int) 2 4 := ⟨y0_X5_bestAgainst, ca_inT (List.mem_of_getElem? (i := 596) (by decide +kernel)) rfl, ca_inT (List.mem_of_getElem? (i := 19) (by decide +kernel)) rfl, by decide +kernel⟩
set_option maxRecDepth 100000 in
theorem y0_X5_slipsWithin : ca_Y yX5_slipsWithin cX5_slipsWithin 8 (some .long) 4 := ⟨ca_inT (List.mem_of_getElem? (i := 664) rfl) rfl, w_in_X5, by decide +kernel, by decide⟩
theorem y_X5_slipsWithin : ca_YV yX5_slipsWithin cX5_slipsWithin 8 (some .long) 4 4 := ⟨y0_X5_slipsWithin, ca_inT (List.mem_of_getElem? (i := 663) (by decide +kernel)) rfl, ca_inT (List.mem_of_getElem? (i := 23) (by decide +kernel)) rfl, by decide +kernel⟩
set_option maxRecDepth 100000 in
theorem y0_X5_power : ca_Y yX5_power cX5_power 5 (some .long) 2 := ⟨ca_inT (List.mem_of_getElem? (i := 667) rfl) rfl, w_in_X5, by decide +kernel, by decide⟩
theorem y_X5_power : ca_YS yX5_power cX5_power 5 (some .long) 2 := ⟨y0_X5_power, ca_inT (List.mem_of_getElem? (i := 666) (by decide +kernel)) rfl⟩
set_option maxRecDepth 100000 in
theorem y0_X5_commonDivisor : ca_Y yX5_commonDivisor cX5_commonDivisor 11 (some .long) 2 := ⟨ca_inT (List.mem_of_getElem? (i := 670) rfl) rfl, w_in_X5, by decide +kernel, by decide⟩
theorem y_X5_commonDivisor : ca_YS yX5_commonDivisor cX5_commonDivisor 11 (some .long) 2 := ⟨y0_X5_commonDivisor, ca_inT (List.mem_of_getElem? (i := 669) (by decide +kernel)) rfl⟩
set_option maxRecDepth 100000 in
theorem y0_X5_burnsAsRowTells : ca_Y yX5_burnsAsRowTells cX5_burnsAsRowTells 3 (some .boolean) 1 := ⟨ca_inT (List.mem_of_getElem? (i := 678) rfl) rfl, w_in_X5, by decide +kernel, by decide⟩
theorem y_X5_burnsAsRowTells : ca_YV yX5_burnsAsRowTells cX5_burnsAsRowTells 3 (some .boolean) 1 4 := ⟨y0_X5_burnsAsRowTells, ca_inT (List.mem_of_getElem? (i := 677) (by decide +kernel)) rfl, ca_inT (List.mem_of_getElem? (i := 24) (by decide +kernel)) rfl, by decide +kernel⟩
set_option maxRecDepth 100000 in
theorem y0_X5_firstOf : ca_Y yX5_firstOf cX5_firstOf 2 (some .int) 1 := ⟨ca_inT (List.mem_of_getElem? (i := 643) rfl) rfl, w_in_X5, by decide +kernel, by decide⟩
theorem y_X5_firstOf : ca_YS yX5_firstOf cX5_firstOf 2 (some .int) 1 := ⟨y0_X5_firstOf, ca_inT (List.mem_of_getElem? (i := 642) (by decide +kernel)) rfl⟩
set_option maxRecDepth 100000 in
theorem y0_X5_asRowTells : ca_Y yX5_asRowTells cX5_asRowTells 1 (some .int) 1 := ⟨ca_inT (List.mem_of_getElem? (i := 682) rfl) rfl, w_in_X5, by decide +kernel, by decide⟩
theorem y_X5_asRowTells : ca_YS yX5_asRowTells cX5_asRowTells 1 (some .int) 1 := ⟨y0_X5_asRowTells, ca_inT (List.mem_of_getElem? (i := 681) (by decide +kernel)) rfl⟩
set_option maxRecDepth 100000 in
theorem y0_X5_seedAfter : ca_Y yX5_seedAfter cX5_seedAfter 1 (some .int) 1 := ⟨ca_inT (List.mem_of_getElem? (i := 702) rfl) rfl, w_in_X5, by decide +kernel, by decide⟩
theorem y_X5_seedAfter : ca_YS yX5_seedAfter cX5_seedAfter 1 (some .int) 1 := ⟨y0_X5_seedAfter, ca_inT (List.mem_of_getElem? (i := 701) (by decide +kernel)) rfl⟩
set_option maxRecDepth 100000 in
theorem y0_X5_drawn : ca_Y yX5_drawn cX5_drawn 2 (some .int) 2 := ⟨ca_inT (List.mem_of_getElem? (i := 707) rfl) rfl, w_in_X5, by decide +kernel, by decide⟩
theorem y_X5_drawn : ca_YS yX5_drawn cX5_drawn 2 (some .int) 2 := ⟨y0_X5_drawn, ca_inT (List.mem_of_getElem? (i := 706) (by decide +kernel)) rfl⟩
set_option maxRecDepth 100000 in
theorem y0_X6_init : ca_Y yX6_init cX6_init 1 none 0 := ⟨ca_inT (List.mem_of_getElem? (i := 739) rfl) rfl, w_in_X6, by decide +kernel, by decide⟩
theorem y_X6_init : ca_YI yX6_init cX6_init 1 0 := ⟨y0_X6_init, rfl, ca_inT (List.mem_of_getElem? (i := 738) (by decide +kernel)) rfl⟩
set_option maxRecDepth 100000 in
theorem y0_X6_isIn : ca_Y yX6_isIn cX6_isIn 3 (some .boolean) 3 := ⟨ca_inT (List.mem_of_getElem? (i := 835) rfl) rfl, w_in_X6, by decide +kernel, by decide⟩
theorem y_X6_isIn : ca_YS yX6_isIn cX6_isIn 3 (some .boolean) 3 := ⟨y0_X6_isIn, ca_inT (List.mem_of_getElem? (i := 834) (by decide +kernel)) rfl⟩
set_option maxRecDepth 100000 in
theorem y0_X6_most : ca_Y yX6_most cX6_most 2 (some .int) 2 := ⟨ca_inT (List.mem_of_getElem? (i := 858) rfl) rfl, w_in_X6, by decide +kernel, by decide⟩
theorem y_X6_most : ca_YS yX6_most cX6_most 2 (some .int) 2 := ⟨y0_X6_most, ca_inT (List.mem_of_getElem? (i := 857) (by decide +kernel)) rfl⟩
set_option maxRecDepth 100000 in
theorem y0_X6_lays : ca_Y yX6_lays cX6_lays 3 none 2 := ⟨ca_inT (List.mem_of_getElem? (i := 838) rfl) rfl, w_in_X6, by decide +kernel, by decide⟩
theorem y_X6_lays : ca_YS yX6_lays cX6_lays 3 none 2 := ⟨y0_X6_lays, ca_inT (List.mem_of_getElem? (i := 837) (by decide +kernel)) rfl⟩
set_option maxRecDepth 100000 in
theorem y0_X6_no : ca_Y yX6_no cX6_no 2 (some .int) 1 := ⟨ca_inT (List.mem_of_getElem? (i := 809) rfl) rfl, w_in_X6, by decide +kernel, by decide⟩
theorem y_X6_no : ca_YV yX6_no cX6_no 2 (some .int) 1 5 := ⟨y0_X6_no, ca_inT (List.mem_of_getElem? (i := 808) (by decide +kernel)) rfl, ca_inT (List.mem_of_getElem? (i := 25) (by decide +kernel)) rfl, by decide +kernel⟩
set_option maxRecDepth 100000 in
theorem y0_X6_noWide : ca_Y yX6_noWide cX6_noWide 2 (some .long) 1 := ⟨ca_inT (List.mem_of_getElem? (i := 1017) rfl) rfl, w_in_X6, by decide +kernel, by decide⟩
theorem y_X6_noWide : ca_YV yX6_noWide cX6_noWide 2 (some .long) 1 5 := ⟨y0_X6_noWide, ca_inT (List.mem_of_getElem? (i := 1016) (by decide +kernel)) rfl, ca_inT (List.mem_of_getElem? (i := 44) (by decide +kernel)) rfl, by decide +kernel⟩
set_option maxRecDepth 100000 in
theorem y0_X6_isRoom : ca_Y yX6_isRoom cX6_isRoom 1 (some .boolean) 1 := ⟨ca_inT (List.mem_of_getElem? (i := 845) rfl) rfl, w_in_X6, by decide +kernel, by decide⟩
theorem y_X6_isRoom : ca_YS yX6_isRoom cX6_isRoom 1 (some .boolean) 1 := ⟨y0_X6_isRoom, ca_inT (List.mem_of_getElem? (i := 844) (by decide +kernel)) rfl⟩
set_option maxRecDepth 100000 in
theorem y0_X6_isPerson : ca_Y yX6_isPerson cX6_isPerson 2 (some .boolean) 1 := ⟨ca_inT (List.mem_of_getElem? (i := 852) rfl) rfl, w_in_X6, by decide +kernel, by decide⟩
theorem y_X6_isPerson : ca_YV yX6_isPerson cX6_isPerson 2 (some .boolean) 1 5 := ⟨y0_X6_isPerson, ca_inT (List.mem_of_getElem? (i := 851) (by decide +kernel)) rfl, ca_inT (List.mem_of_getElem? (i := 31) (by decide +kernel)) rfl, by decide +kernel⟩
set_option maxRecDepth 100000 in
theorem y0_X6_isSpeaker : ca_Y yX6_isSpeaker cX6_isSpeaker 2 (some .boolean) 1 := ⟨ca_inT (List.mem_of_getElem? (i := 911) rfl) rfl, w_in_X6, by decide +kernel, by decide⟩
theorem y_X6_isSpeaker : ca_YV yX6_isSpeaker cX6_isSpeaker 2 (some .boolean) 1 5 := ⟨y0_X6_isSpeaker, ca_inT (List.mem_of_getElem? (i := 910) (by decide +kernel)) rfl, ca_inT (List.mem_of_getElem? (i := 34) (by decide +kernel)) rfl, by decide +kernel⟩
set_option maxRecDepth 100000 in
theorem y0_X6_known : ca_Y yX6_known cX6_known 2 (some .int) 2 := ⟨ca_inT (List.mem_of_getElem? (i := 848) rfl) rfl, w_in_X6, by decide +kernel, by decide⟩
theorem y_X6_known : ca_YS yX6_known cX6_known 2 (some .int) 2 := ⟨y0_X6_known, ca_inT (List.mem_of_getElem? (i := 847) (by decide +kernel)) rfl⟩
set_option maxRecDepth 100000 in
theorem y0_X6_needs : ca_Y yX6_needs cX6_needs 3 (some .int) 2 := ⟨ca_inT (List.mem_of_getElem? (i := 865) rfl) rfl, w_in_X6, by decide +kernel, by decide⟩
theorem y_X6_needs : ca_YS yX6_needs cX6_needs 3 (some .int) 2 := ⟨y0_X6_needs, ca_inT (List.mem_of_getElem? (i := 864) (by decide +kernel)) rfl⟩
set_option maxRecDepth 100000 in
theorem y0_X6_catches : ca_Y yX6_catches cX6_catches 2 (some .int) 2 := ⟨ca_inT (List.mem_of_getElem? (i := 868) rfl) rfl, w_in_X6, by decide +kernel, by decide⟩
theorem y_X6_catches : ca_YS yX6_catches cX6_catches 2 (some .int) 2 := ⟨y0_X6_catches, ca_inT (List.mem_of_getElem? (i := 867) (by decide +kernel)) rfl⟩
set_option maxRecDepth 100000 in
theorem y0_X6_worth : ca_Y yX6_worth cX6_worth 3 (some .int) 2 := ⟨ca_inT (List.mem_of_getElem? (i := 872) rfl) rfl, w_in_X6, by decide +kernel, by decide⟩
theorem y_X6_worth : ca_YS yX6_worth cX6_worth 3 (some .int) 2 := ⟨y0_X6_worth, ca_inT (List.mem_of_getElem? (i := 871) (by decide +kernel)) rfl⟩
set_option maxRecDepth 100000 in
theorem y0_X6_isKnown : ca_Y yX6_isKnown cX6_isKnown 3 (some .boolean) 3 := ⟨ca_inT (List.mem_of_getElem? (i := 899) rfl) rfl, w_in_X6, by decide +kernel, by decide⟩
theorem y_X6_isKnown : ca_YS yX6_isKnown cX6_isKnown 3 (some .boolean) 3 := ⟨y0_X6_isKnown, ca_inT (List.mem_of_getElem? (i := 898) (by decide +kernel)) rfl⟩
set_option maxRecDepth 100000 in
theorem y0_X6_beside : ca_Y yX6_beside cX6_beside 2 (some .int) 2 := ⟨ca_inT (List.mem_of_getElem? (i := 930) rfl) rfl, w_in_X6, by decide +kernel, by decide⟩
theorem y_X6_beside : ca_YS yX6_beside cX6_beside 2 (some .int) 2 := ⟨y0_X6_beside, ca_inT (List.mem_of_getElem? (i := 929) (by decide +kernel)) rfl⟩
set_option maxRecDepth 100000 in
theorem y0_X6_night : ca_Y yX6_night cX6_night 3 none 1 := ⟨ca_inT (List.mem_of_getElem? (i := 855) rfl) rfl, w_in_X6, by decide +kernel, by decide⟩
theorem y_X6_night : ca_YS yX6_night cX6_night 3 none 1 := ⟨y0_X6_night, ca_inT (List.mem_of_getElem? (i := 854) (by decide +kernel)) rfl⟩
set_option maxRecDepth 100000 in
theorem y0_X6_findsSoonest : ca_Y yX6_findsSoonest cX6_findsSoonest 6 none 1 := ⟨ca_inT (List.mem_of_getElem? (i := 927) rfl) rfl, w_in_X6, by decide +kernel, by decide⟩
theorem y_X6_findsSoonest : ca_YV yX6_findsSoonest cX6_findsSoonest 6 none 1 5 := ⟨y0_X6_findsSoonest, ca_inT (List.mem_of_getElem? (i := 926) (by decide +kernel)) rfl, ca_inT (List.mem_of_getElem? (i := 38) (by decide +kernel)) rfl, by decide +kernel⟩
set_option maxRecDepth 100000 in
theorem y0_X6_isGoingOn : ca_Y yX6_isGoingOn cX6_isGoingOn 2 (some .boolean) 0 := ⟨ca_inT (List.mem_of_getElem? (i := 934) rfl) rfl, w_in_X6, by decide +kernel, by decide⟩
theorem y_X6_isGoingOn : ca_YV yX6_isGoingOn cX6_isGoingOn 2 (some .boolean) 0 5 := ⟨y0_X6_isGoingOn, ca_inT (List.mem_of_getElem? (i := 933) (by decide +kernel)) rfl, ca_inT (List.mem_of_getElem? (i := 39) (by decide +kernel)) rfl, by decide +kernel⟩
set_option maxRecDepth 100000 in
theorem y0_X6_toSay : ca_Y yX6_toSay cX6_toSay 5 (some .int) 2 := ⟨ca_inT (List.mem_of_getElem? (i := 938) rfl) rfl, w_in_X6, by decide +kernel, by decide⟩
theorem y_X6_toSay : ca_YV yX6_toSay cX6_toSay 5 (some .int) 2 5 := ⟨y0_X6_toSay, ca_inT (List.mem_of_getElem? (i := 937) (by decide +kernel)) rfl, ca_inT (List.mem_of_getElem? (i := 40) (by decide +kernel)) rfl, by decide +kernel⟩
set_option maxRecDepth 100000 in
theorem y0_X6_burns : ca_Y yX6_burns cX6_burns 8 none 2 := ⟨ca_inT (List.mem_of_getElem? (i := 923) rfl) rfl, w_in_X6, by decide +kernel, by decide⟩
theorem y_X6_burns : ca_YV yX6_burns cX6_burns 8 none 2 5 := ⟨y0_X6_burns, ca_inT (List.mem_of_getElem? (i := 922) (by decide +kernel)) rfl, ca_inT (List.mem_of_getElem? (i := 37) (by decide +kernel)) rfl, by decide +kernel⟩
set_option maxRecDepth 100000 in
theorem y0_X6_turnsFrom : ca_Y yX6_turnsFrom cX6_turnsFrom 6 none 3 := ⟨ca_inT (List.mem_of_getElem? (i := 919) rfl) rfl, w_in_X6, by decide +kernel, by decide⟩
theorem y_X6_turnsFrom : ca_YV yX6_turnsFrom cX6_turnsFrom 6 none 3 5 := ⟨y0_X6_turnsFrom, ca_inT (List.mem_of_getElem? (i := 918) (by decide +kernel)) rfl, ca_inT (List.mem_of_getElem? (i := 36) (by decide +kernel)) rfl, by decide +kernel⟩
set_option maxRecDepth 100000 in
theorem y0_X6_burntMany : ca_Y yX6_burntMany cX6_burntMany 3 (some .int) 0 := ⟨ca_inT (List.mem_of_getElem? (i := 942) rfl) rfl, w_in_X6, by decide +kernel, by decide⟩
theorem y_X6_burntMany : ca_YV yX6_burntMany cX6_burntMany 3 (some .int) 0 5 := ⟨y0_X6_burntMany, ca_inT (List.mem_of_getElem? (i := 941) (by decide +kernel)) rfl, ca_inT (List.mem_of_getElem? (i := 41) (by decide +kernel)) rfl, by decide +kernel⟩
set_option maxRecDepth 100000 in
theorem y0_X6_burntWorth : ca_Y yX6_burntWorth cX6_burntWorth 4 (some .int) 1 := ⟨ca_inT (List.mem_of_getElem? (i := 946) rfl) rfl, w_in_X6, by decide +kernel, by decide⟩
theorem y_X6_burntWorth : ca_YV yX6_burntWorth cX6_burntWorth 4 (some .int) 1 5 := ⟨y0_X6_burntWorth, ca_inT (List.mem_of_getElem? (i := 945) (by decide +kernel)) rfl, ca_inT (List.mem_of_getElem? (i := 42) (by decide +kernel)) rfl, by decide +kernel⟩
set_option maxRecDepth 100000 in
theorem y0_X6_worthBy : ca_Y yX6_worthBy cX6_worthBy 4 (some .int) 3 := ⟨ca_inT (List.mem_of_getElem? (i := 970) rfl) rfl, w_in_X6, by decide +kernel, by decide⟩
theorem y_X6_worthBy : ca_YV yX6_worthBy cX6_worthBy 4 (some .int) 3 5 := ⟨y0_X6_worthBy, ca_inT (List.mem_of_getElem? (i := 969) (by decide +kernel)) rfl, ca_inT (List.mem_of_getElem? (i := 43) (by decide +kernel)) rfl, by decide +kernel⟩
set_option maxRecDepth 100000 in
theorem y0_X6_letter : ca_Y yX6_letter cX6_letter 2 (some .int) 1 := ⟨ca_inT (List.mem_of_getElem? (i := 805) rfl) rfl, w_in_X6, by decide +kernel, by decide⟩
theorem y_X6_letter : ca_YV yX6_letter cX6_letter 2 (some .int) 1 5 := ⟨y0_X6_letter, ca_inT (List.mem_of_getElem? (i := 803) (by decide +kernel)) rfl, ca_inT (List.mem_of_getElem? (i := 804) (by decide +kernel)) rfl, by decide +kernel⟩
set_option maxRecDepth 100000 in
theorem y0_X6_here : ca_Y yX6_here cX6_here 1 (some .int) 0 := ⟨ca_inT (List.mem_of_getElem? (i := 821) rfl) rfl, w_in_X6, by decide +kernel, by decide⟩
theorem y_X6_here : ca_YV yX6_here cX6_here 1 (some .int) 0 5 := ⟨y0_X6_here, ca_inT (List.mem_of_getElem? (i := 820) (by decide +kernel)) rfl, ca_inT (List.mem_of_getElem? (i := 27) (by decide +kernel)) rfl, by decide +kernel⟩
set_option maxRecDepth 100000 in
theorem y0_X6_readsNumber : ca_Y yX6_readsNumber cX6_readsNumber 4 (some .boolean) 2 := ⟨ca_inT (List.mem_of_getElem? (i := 832) rfl) rfl, w_in_X6, by decide +kernel, by decide⟩
theorem y_X6_readsNumber : ca_YV yX6_readsNumber cX6_readsNumber 4 (some .boolean) 2 5 := ⟨y0_X6_readsNumber, ca_inT (List.mem_of_getElem? (i := 831) (by decide +kernel)) rfl, ca_inT (List.mem_of_getElem? (i := 29) (by decide +kernel)) rfl, by decide +kernel⟩
set_option maxRecDepth 100000 in
theorem y0_X6_kindBy : ca_Y yX6_kindBy cX6_kindBy 1 (some .int) 1 := ⟨ca_inT (List.mem_of_getElem? (i := 828) rfl) rfl, w_in_X6, by decide +kernel, by decide⟩
theorem y_X6_kindBy : ca_YS yX6_kindBy cX6_kindBy 1 (some .int) 1 := ⟨y0_X6_kindBy, ca_inT (List.mem_of_getElem? (i := 827) (by decide +kernel)) rfl⟩
set_option maxRecDepth 100000 in
theorem y0_X6_readsKind : ca_Y yX6_readsKind cX6_readsKind 1 (some .boolean) 0 := ⟨ca_inT (List.mem_of_getElem? (i := 825) rfl) rfl, w_in_X6, by decide +kernel, by decide⟩
theorem y_X6_readsKind : ca_YV yX6_readsKind cX6_readsKind 1 (some .boolean) 0 5 := ⟨y0_X6_readsKind, ca_inT (List.mem_of_getElem? (i := 824) (by decide +kernel)) rfl, ca_inT (List.mem_of_getElem? (i := 28) (by decide +kernel)) rfl, by decide +kernel⟩
set_option maxRecDepth 100000 in
theorem y0_X6_readsStatement : ca_Y yX6_readsStatement cX6_readsStatement 3 (some .boolean) 0 := ⟨ca_inT (List.mem_of_getElem? (i := 817) rfl) rfl, w_in_X6, by decide +kernel, by decide⟩
theorem y_X6_readsStatement : ca_YV yX6_readsStatement cX6_readsStatement 3 (some .boolean) 0 5 := ⟨y0_X6_readsStatement, ca_inT (List.mem_of_getElem? (i := 816) (by decide +kernel)) rfl, ca_inT (List.mem_of_getElem? (i := 26) (by decide +kernel)) rfl, by decide +kernel⟩
set_option maxRecDepth 100000 in
theorem y0_X6_isDone : ca_Y yX6_isDone cX6_isDone 5 (some .boolean) 1 := ⟨ca_inT (List.mem_of_getElem? (i := 842) rfl) rfl, w_in_X6, by decide +kernel, by decide⟩
theorem y_X6_isDone : ca_YV yX6_isDone cX6_isDone 5 (some .boolean) 1 5 := ⟨y0_X6_isDone, ca_inT (List.mem_of_getElem? (i := 841) (by decide +kernel)) rfl, ca_inT (List.mem_of_getElem? (i := 30) (by decide +kernel)) rfl, by decide +kernel⟩
set_option maxRecDepth 100000 in
theorem y0_X6_house : ca_Y yX6_house cX6_house 6 (some .int) 0 := ⟨ca_inT (List.mem_of_getElem? (i := 813) rfl) rfl, w_in_X6, by decide +kernel, by decide⟩
theorem y_X6_house : ca_YV yX6_house cX6_house 6 (some .int) 0 5 := ⟨y0_X6_house, ca_inT (List.mem_of_getElem? (i := 811) (by decide +kernel)) rfl, ca_inT (List.mem_of_getElem? (i := 812) (by decide +kernel)) rfl, by decide +kernel⟩
set_option maxRecDepth 100000 in
theorem y0_X6_room : ca_Y yX6_room cX6_room 3 (some .int) 2 := ⟨ca_inT (List.mem_of_getElem? (i := 862) rfl) rfl, w_in_X6, by decide +kernel, by decide⟩
theorem y_X6_room : ca_YV yX6_room cX6_room 3 (some .int) 2 5 := ⟨y0_X6_room, ca_inT (List.mem_of_getElem? (i := 860) (by decide +kernel)) rfl, ca_inT (List.mem_of_getElem? (i := 861) (by decide +kernel)) rfl, by decide +kernel⟩
set_option maxRecDepth 100000 in
theorem y0_X6_person : ca_Y yX6_person cX6_person 3 (some .int) 2 := ⟨ca_inT (List.mem_of_getElem? (i := 876) rfl) rfl, w_in_X6, by decide +kernel, by decide⟩
theorem y_X6_person : ca_YV yX6_person cX6_person 3 (some .int) 2 5 := ⟨y0_X6_person, ca_inT (List.mem_of_getElem? (i := 874) (by decide +kernel)) rfl, ca_inT (List.mem_of_getElem? (i := 875) (by decide +kernel)) rfl, by decide +kernel⟩
set_option maxRecDepth 100000 in
theorem y0_X6_turn : ca_Y yX6_turn cX6_turn 5 (some .int) 3 := ⟨ca_inT (List.mem_of_getElem? (i := 880) rfl) rfl, w_in_X6, by decide +kernel, by decide⟩
theorem y_X6_turn : ca_YV yX6_turn cX6_turn 5 (some .int) 3 5 := ⟨y0_X6_turn, ca_inT (List.mem_of_getElem? (i := 878) (by decide +kernel)) rfl, ca_inT (List.mem_of_getElem? (i := 879) (by decide +kernel)) rfl, by decide +kernel⟩
set_option maxRecDepth 100000 in
theorem y0_X6_sharp : ca_Y yX6_sharp cX6_sharp 4 (some .int) 2 := ⟨ca_inT (List.mem_of_getElem? (i := 884) rfl) rfl, w_in_X6, by decide +kernel, by decide⟩
theorem y_X6_sharp : ca_YV yX6_sharp cX6_sharp 4 (some .int) 2 5 := ⟨y0_X6_sharp, ca_inT (List.mem_of_getElem? (i := 882) (by decide +kernel)) rfl, ca_inT (List.mem_of_getElem? (i := 883) (by decide +kernel)) rfl, by decide +kernel⟩
set_option maxRecDepth 100000 in
theorem y0_X6_visit : ca_Y yX6_visit cX6_visit 5 (some .int) 3 := ⟨ca_inT (List.mem_of_getElem? (i := 888) rfl) rfl, w_in_X6, by decide +kernel, by decide⟩
theorem y_X6_visit : ca_YV yX6_visit cX6_visit 5 (some .int) 3 5 := ⟨y0_X6_visit, ca_inT (List.mem_of_getElem? (i := 886) (by decide +kernel)) rfl, ca_inT (List.mem_of_getElem? (i := 887) (by decide +kernel)) rfl, by decide +kernel⟩
set_option maxRecDepth 100000 in
theorem y0_X6_knownMany : ca_Y yX6_knownMany cX6_knownMany 6 (some .int) 1 := ⟨ca_inT (List.mem_of_getElem? (i := 896) rfl) rfl, w_in_X6, by decide +kernel, by decide⟩
theorem y_X6_knownMany : ca_YV yX6_knownMany cX6_knownMany 6 (some .int) 1 5 := ⟨y0_X6_knownMany, ca_inT (List.mem_of_getElem? (i := 895) (by decide +kernel)) rfl, ca_inT (List.mem_of_getElem? (i := 32) (by decide +kernel)) rfl, by decide +kernel⟩
set_option maxRecDepth 100000 in
theorem y0_X6_nights : ca_Y yX6_nights cX6_nights 3 (some .int) 1 := ⟨ca_inT (List.mem_of_getElem? (i := 892) rfl) rfl, w_in_X6, by decide +kernel, by decide⟩
theorem y_X6_nights : ca_YV yX6_nights cX6_nights 3 (some .int) 1 5 := ⟨y0_X6_nights, ca_inT (List.mem_of_getElem? (i := 890) (by decide +kernel)) rfl, ca_inT (List.mem_of_getElem? (i := 891) (by decide +kernel)) rfl, by decide +kernel⟩
set_option maxRecDepth 100000 in
theorem y0_X6_isFire : ca_Y yX6_isFire cX6_isFire 3 (some .boolean) 2 := ⟨ca_inT (List.mem_of_getElem? (i := 907) rfl) rfl, w_in_X6, by decide +kernel, by decide⟩
theorem y_X6_isFire : ca_YV yX6_isFire cX6_isFire 3 (some .boolean) 2 5 := ⟨y0_X6_isFire, ca_inT (List.mem_of_getElem? (i := 906) (by decide +kernel)) rfl, ca_inT (List.mem_of_getElem? (i := 33) (by decide +kernel)) rfl, by decide +kernel⟩
set_option maxRecDepth 100000 in
theorem y0_X6_burnsBy : ca_Y yX6_burnsBy cX6_burnsBy 3 none 2 := ⟨ca_inT (List.mem_of_getElem? (i := 915) rfl) rfl, w_in_X6, by decide +kernel, by decide⟩
theorem y_X6_burnsBy : ca_YV yX6_burnsBy cX6_burnsBy 3 none 2 5 := ⟨y0_X6_burnsBy, ca_inT (List.mem_of_getElem? (i := 914) (by decide +kernel)) rfl, ca_inT (List.mem_of_getElem? (i := 35) (by decide +kernel)) rfl, by decide +kernel⟩
set_option maxRecDepth 100000 in
theorem y0_X6_fire : ca_Y yX6_fire cX6_fire 6 (some .int) 3 := ⟨ca_inT (List.mem_of_getElem? (i := 903) rfl) rfl, w_in_X6, by decide +kernel, by decide⟩
theorem y_X6_fire : ca_YV yX6_fire cX6_fire 6 (some .int) 3 5 := ⟨y0_X6_fire, ca_inT (List.mem_of_getElem? (i := 901) (by decide +kernel)) rfl, ca_inT (List.mem_of_getElem? (i := 902) (by decide +kernel)) rfl, by decide +kernel⟩
set_option maxRecDepth 100000 in
theorem y0_X6_burns_ : ca_Y yX6_burns_ cX6_burns_ 4 (some .int) 3 := ⟨ca_inT (List.mem_of_getElem? (i := 950) rfl) rfl, w_in_X6, by decide +kernel, by decide⟩
theorem y_X6_burns_ : ca_YV yX6_burns_ cX6_burns_ 4 (some .int) 3 5 := ⟨y0_X6_burns_, ca_inT (List.mem_of_getElem? (i := 948) (by decide +kernel)) rfl, ca_inT (List.mem_of_getElem? (i := 949) (by decide +kernel)) rfl, by decide +kernel⟩
set_option maxRecDepth 100000 in
theorem y0_X6_said : ca_Y yX6_said cX6_said 5 (some .int) 4 := ⟨ca_inT (List.mem_of_getElem? (i := 954) rfl) rfl, w_in_X6, by decide +kernel, by decide⟩
theorem y_X6_said : ca_YV yX6_said cX6_said 5 (some .int) 4 5 := ⟨y0_X6_said, ca_inT (List.mem_of_getElem? (i := 952) (by decide +kernel)) rfl, ca_inT (List.mem_of_getElem? (i := 953) (by decide +kernel)) rfl, by decide +kernel⟩
set_option maxRecDepth 100000 in
theorem y0_X6_talker : ca_Y yX6_talker cX6_talker 8 (some .int) 2 := ⟨ca_inT (List.mem_of_getElem? (i := 958) rfl) rfl, w_in_X6, by decide +kernel, by decide⟩
theorem y_X6_talker : ca_YV yX6_talker cX6_talker 8 (some .int) 2 5 := ⟨y0_X6_talker, ca_inT (List.mem_of_getElem? (i := 956) (by decide +kernel)) rfl, ca_inT (List.mem_of_getElem? (i := 957) (by decide +kernel)) rfl, by decide +kernel⟩
set_option maxRecDepth 100000 in
theorem y0_X6_alone : ca_Y yX6_alone cX6_alone 2 (some .int) 1 := ⟨ca_inT (List.mem_of_getElem? (i := 962) rfl) rfl, w_in_X6, by decide +kernel, by decide⟩
theorem y_X6_alone : ca_YV yX6_alone cX6_alone 2 (some .int) 1 5 := ⟨y0_X6_alone, ca_inT (List.mem_of_getElem? (i := 960) (by decide +kernel)) rfl, ca_inT (List.mem_of_getElem? (i := 961) (by decide +kernel)) rfl, by decide +kernel⟩
set_option maxRecDepth 100000 in
theorem y0_X6_bestSpeaker : ca_Y yX6_bestSpeaker cX6_bestSpeaker 6 (some .int) 1 := ⟨ca_inT (List.mem_of_getElem? (i := 966) rfl) rfl, w_in_X6, by decide +kernel, by decide⟩
theorem y_X6_bestSpeaker : ca_YV yX6_bestSpeaker cX6_bestSpeaker 6 (some .int) 1 5 := ⟨y0_X6_bestSpeaker, ca_inT (List.mem_of_getElem? (i := 964) (by decide +kernel)) rfl, ca_inT (List.mem_of_getElem? (i := 965) (by decide +kernel)) rfl, by decide +kernel⟩
set_option maxRecDepth 100000 in
theorem y0_X6_worstRoom : ca_Y yX6_worstRoom cX6_worstRoom 5 (some .int) 0 := ⟨ca_inT (List.mem_of_getElem? (i := 974) rfl) rfl, w_in_X6, by decide +kernel, by decide⟩
theorem y_X6_worstRoom : ca_YV yX6_worstRoom cX6_worstRoom 5 (some .int) 0 5 := ⟨y0_X6_worstRoom, ca_inT (List.mem_of_getElem? (i := 972) (by decide +kernel)) rfl, ca_inT (List.mem_of_getElem? (i := 973) (by decide +kernel)) rfl, by decide +kernel⟩
set_option maxRecDepth 100000 in
theorem y0_X6_show : ca_Y yX6_show cX6_show 7 (some .int) 2 := ⟨ca_inT (List.mem_of_getElem? (i := 978) rfl) rfl, w_in_X6, by decide +kernel, by decide⟩
theorem y_X6_show : ca_YV yX6_show cX6_show 7 (some .int) 2 5 := ⟨y0_X6_show, ca_inT (List.mem_of_getElem? (i := 976) (by decide +kernel)) rfl, ca_inT (List.mem_of_getElem? (i := 977) (by decide +kernel)) rfl, by decide +kernel⟩
set_option maxRecDepth 100000 in
theorem y0_X6_mayWait : ca_Y yX6_mayWait cX6_mayWait 4 (some .int) 1 := ⟨ca_inT (List.mem_of_getElem? (i := 982) rfl) rfl, w_in_X6, by decide +kernel, by decide⟩
theorem y_X6_mayWait : ca_YV yX6_mayWait cX6_mayWait 4 (some .int) 1 5 := ⟨y0_X6_mayWait, ca_inT (List.mem_of_getElem? (i := 980) (by decide +kernel)) rfl, ca_inT (List.mem_of_getElem? (i := 981) (by decide +kernel)) rfl, by decide +kernel⟩
set_option maxRecDepth 100000 in
theorem y0_X6_leftOut : ca_Y yX6_leftOut cX6_leftOut 5 (some .int) 1 := ⟨ca_inT (List.mem_of_getElem? (i := 986) rfl) rfl, w_in_X6, by decide +kernel, by decide⟩
theorem y_X6_leftOut : ca_YV yX6_leftOut cX6_leftOut 5 (some .int) 1 5 := ⟨y0_X6_leftOut, ca_inT (List.mem_of_getElem? (i := 984) (by decide +kernel)) rfl, ca_inT (List.mem_of_getElem? (i := 985) (by decide +kernel)) rfl, by decide +kernel⟩
set_option maxRecDepth 100000 in
theorem y0_X6_bits : ca_Y yX6_bits cX6_bits 3 (some .int) 1 := ⟨ca_inT (List.mem_of_getElem? (i := 993) rfl) rfl, w_in_X6, by decide +kernel, by decide⟩
theorem y_X6_bits : ca_YS yX6_bits cX6_bits 3 (some .int) 1 := ⟨y0_X6_bits, ca_inT (List.mem_of_getElem? (i := 992) (by decide +kernel)) rfl⟩
set_option maxRecDepth 100000 in
theorem y0_X6_enough : ca_Y yX6_enough cX6_enough 6 (some .int) 1 := ⟨ca_inT (List.mem_of_getElem? (i := 990) rfl) rfl, w_in_X6, by decide +kernel, by decide⟩
theorem y_X6_enough : ca_YV yX6_enough cX6_enough 6 (some .int) 1 5 := ⟨y0_X6_enough, ca_inT (List.mem_of_getElem? (i := 988) (by decide +kernel)) rfl, ca_inT (List.mem_of_getElem? (i := 989) (by decide +kernel)) rfl, by decide +kernel⟩
set_option maxRecDepth 100000 in
theorem y0_X6_wall : ca_Y yX6_wall cX6_wall 6 (some .int) 1 := ⟨ca_inT (List.mem_of_getElem? (i := 997) rfl) rfl, w_in_X6, by decide +kernel, by decide⟩
theorem y_X6_wall : ca_YV yX6_wall cX6_wall 6 (some .int) 1 5 := ⟨y0_X6_wall, ca_inT (List.mem_of_getElem? (i := 995) (by decide +kernel)) rfl, ca_inT (List.mem_of_getElem? (i := 996) (by decide +kernel)) rfl, by decide +kernel⟩
set_option maxRecDepth 100000 in
theorem y0_X6_captain : ca_Y yX6_captain cX6_captain 8 (some .int) 3 := ⟨ca_inT (List.mem_of_getElem? (i := 1001) rfl) rfl, w_in_X6, by decide +kernel, by decide⟩
theorem y_X6_captain : ca_YV yX6_captain cX6_captain 8 (some .int) 3 5 := ⟨y0_X6_captain, ca_inT (List.mem_of_getElem? (i := 999) (by decide +kernel)) rfl, ca_inT (List.mem_of_getElem? (i := 1000) (by decide +kernel)) rfl, by decide +kernel⟩
set_option maxRecDepth 100000 in
theorem y0_X6_unlike : ca_Y yX6_unlike cX6_unlike 7 (some .int) 3 := ⟨ca_inT (List.mem_of_getElem? (i := 1005) rfl) rfl, w_in_X6, by decide +kernel, by decide⟩
theorem y_X6_unlike : ca_YV yX6_unlike cX6_unlike 7 (some .int) 3 5 := ⟨y0_X6_unlike, ca_inT (List.mem_of_getElem? (i := 1003) (by decide +kernel)) rfl, ca_inT (List.mem_of_getElem? (i := 1004) (by decide +kernel)) rfl, by decide +kernel⟩
set_option maxRecDepth 100000 in
theorem y0_X6_sure : ca_Y yX6_sure cX6_sure 2 (some .int) 1 := ⟨ca_inT (List.mem_of_getElem? (i := 1009) rfl) rfl, w_in_X6, by decide +kernel, by decide⟩
theorem y_X6_sure : ca_YV yX6_sure cX6_sure 2 (some .int) 1 5 := ⟨y0_X6_sure, ca_inT (List.mem_of_getElem? (i := 1007) (by decide +kernel)) rfl, ca_inT (List.mem_of_getElem? (i := 1008) (by decide +kernel)) rfl, by decide +kernel⟩
set_option maxRecDepth 100000 in
theorem y0_X6_gcd : ca_Y yX6_gcd cX6_gcd 10 (some .long) 2 := ⟨ca_inT (List.mem_of_getElem? (i := 1024) rfl) rfl, w_in_X6, by decide +kernel, by decide⟩
theorem y_X6_gcd : ca_YS yX6_gcd cX6_gcd 10 (some .long) 2 := ⟨y0_X6_gcd, ca_inT (List.mem_of_getElem? (i := 1023) (by decide +kernel)) rfl⟩
set_option maxRecDepth 100000 in
theorem y0_X6_partOf : ca_Y yX6_partOf cX6_partOf 5 (some .long) 3 := ⟨ca_inT (List.mem_of_getElem? (i := 1021) rfl) rfl, w_in_X6, by decide +kernel, by decide⟩
theorem y_X6_partOf : ca_YS yX6_partOf cX6_partOf 5 (some .long) 3 := ⟨y0_X6_partOf, ca_inT (List.mem_of_getElem? (i := 1020) (by decide +kernel)) rfl⟩
set_option maxRecDepth 100000 in
theorem y0_X6_slip : ca_Y yX6_slip cX6_slip 14 (some .long) 5 := ⟨ca_inT (List.mem_of_getElem? (i := 1013) rfl) rfl, w_in_X6, by decide +kernel, by decide⟩
theorem y_X6_slip : ca_YV yX6_slip cX6_slip 14 (some .long) 5 5 := ⟨y0_X6_slip, ca_inT (List.mem_of_getElem? (i := 1011) (by decide +kernel)) rfl, ca_inT (List.mem_of_getElem? (i := 1012) (by decide +kernel)) rfl, by decide +kernel⟩
set_option maxRecDepth 100000 in
theorem y0_X6_whatWas : ca_Y yX6_whatWas cX6_whatWas 9 (some .int) 3 := ⟨ca_inT (List.mem_of_getElem? (i := 1028) rfl) rfl, w_in_X6, by decide +kernel, by decide⟩
theorem y_X6_whatWas : ca_YV yX6_whatWas cX6_whatWas 9 (some .int) 3 5 := ⟨y0_X6_whatWas, ca_inT (List.mem_of_getElem? (i := 1026) (by decide +kernel)) rfl, ca_inT (List.mem_of_getElem? (i := 1027) (by decide +kernel)) rfl, by decide +kernel⟩
set_option maxRecDepth 100000 in
theorem y0_X6_row : ca_Y yX6_row cX6_row 2 (some .int) 1 := ⟨ca_inT (List.mem_of_getElem? (i := 1032) rfl) rfl, w_in_X6, by decide +kernel, by decide⟩
theorem y_X6_row : ca_YV yX6_row cX6_row 2 (some .int) 1 5 := ⟨y0_X6_row, ca_inT (List.mem_of_getElem? (i := 1030) (by decide +kernel)) rfl, ca_inT (List.mem_of_getElem? (i := 1031) (by decide +kernel)) rfl, by decide +kernel⟩
set_option maxRecDepth 100000 in
theorem y0_X6_judge : ca_Y yX6_judge cX6_judge 6 (some .int) 1 := ⟨ca_inT (List.mem_of_getElem? (i := 1036) rfl) rfl, w_in_X6, by decide +kernel, by decide⟩
theorem y_X6_judge : ca_YV yX6_judge cX6_judge 6 (some .int) 1 5 := ⟨y0_X6_judge, ca_inT (List.mem_of_getElem? (i := 1034) (by decide +kernel)) rfl, ca_inT (List.mem_of_getElem? (i := 1035) (by decide +kernel)) rfl, by decide +kernel⟩
set_option maxRecDepth 100000 in
theorem y0_X6_clear : ca_Y yX6_clear cX6_clear 2 (some .int) 0 := ⟨ca_inT (List.mem_of_getElem? (i := 1040) rfl) rfl, w_in_X6, by decide +kernel, by decide⟩
theorem y_X6_clear : ca_YV yX6_clear cX6_clear 2 (some .int) 0 5 := ⟨y0_X6_clear, ca_inT (List.mem_of_getElem? (i := 1038) (by decide +kernel)) rfl, ca_inT (List.mem_of_getElem? (i := 1039) (by decide +kernel)) rfl, by decide +kernel⟩
set_option maxRecDepth 100000 in
theorem y0_X6_drawn : ca_Y yX6_drawn cX6_drawn 2 (some .int) 1 := ⟨ca_inT (List.mem_of_getElem? (i := 1048) rfl) rfl, w_in_X6, by decide +kernel, by decide⟩
theorem y_X6_drawn : ca_YV yX6_drawn cX6_drawn 2 (some .int) 1 5 := ⟨y0_X6_drawn, ca_inT (List.mem_of_getElem? (i := 1047) (by decide +kernel)) rfl, ca_inT (List.mem_of_getElem? (i := 45) (by decide +kernel)) rfl, by decide +kernel⟩
set_option maxRecDepth 100000 in
theorem y0_X6_lots : ca_Y yX6_lots cX6_lots 8 (some .int) 3 := ⟨ca_inT (List.mem_of_getElem? (i := 1044) rfl) rfl, w_in_X6, by decide +kernel, by decide⟩
theorem y_X6_lots : ca_YV yX6_lots cX6_lots 8 (some .int) 3 5 := ⟨y0_X6_lots, ca_inT (List.mem_of_getElem? (i := 1042) (by decide +kernel)) rfl, ca_inT (List.mem_of_getElem? (i := 1043) (by decide +kernel)) rfl, by decide +kernel⟩
set_option maxRecDepth 100000 in
theorem y0_X6_image : ca_Y yX6_image cX6_image 1 (some .int) 0 := ⟨ca_inT (List.mem_of_getElem? (i := 1055) rfl) rfl, w_in_X6, by decide +kernel, by decide⟩
theorem y_X6_image : ca_YV yX6_image cX6_image 1 (some .int) 0 5 := ⟨y0_X6_image, ca_inT (List.mem_of_getElem? (i := 1053) (by decide +kernel)) rfl, ca_inT (List.mem_of_getElem? (i := 1054) (by decide +kernel)) rfl, by decide +kernel⟩
set_option maxRecDepth 100000 in
theorem y0_X6_on : ca_Y yX6_on cX6_on 1 (some .int) 0 := ⟨ca_inT (List.mem_of_getElem? (i := 1059) rfl) rfl, w_in_X6, by decide +kernel, by decide⟩
theorem y_X6_on : ca_YV yX6_on cX6_on 1 (some .int) 0 5 := ⟨y0_X6_on, ca_inT (List.mem_of_getElem? (i := 1057) (by decide +kernel)) rfl, ca_inT (List.mem_of_getElem? (i := 1058) (by decide +kernel)) rfl, by decide +kernel⟩
set_option maxRecDepth 100000 in
theorem y0_X6_count : ca_Y yX6_count cX6_count 5 (some .int) 1 := ⟨ca_inT (List.mem_of_getElem? (i := 1063) rfl) rfl, w_in_X6, by decide +kernel, by decide⟩
theorem y_X6_count : ca_YV yX6_count cX6_count 5 (some .int) 1 5 := ⟨y0_X6_count, ca_inT (List.mem_of_getElem? (i := 1061) (by decide +kernel)) rfl, ca_inT (List.mem_of_getElem? (i := 1062) (by decide +kernel)) rfl, by decide +kernel⟩
set_option maxRecDepth 100000 in
theorem y0_J6_bitCount_0f7a4 : ca_Y yJ6_bitCount_0f7a4 cJ6_bitCount_0f7a4 1 (some .int) 1 := ⟨ca_inT (List.mem_of_getElem? (i := 461) rfl) rfl, w_in_J6, by decide +kernel, by decide⟩
theorem y_J6_bitCount_0f7a4 : ca_YS yJ6_bitCount_0f7a4 cJ6_bitCount_0f7a4 1 (some .int) 1 := ⟨y0_J6_bitCount_0f7a4, ca_inT (List.mem_of_getElem? (i := 460) (by decide +kernel)) rfl⟩
set_option maxRecDepth 100000 in
theorem y0_J9_floorMod_7cf53 : ca_Y yJ9_floorMod_7cf53 cJ9_floorMod_7cf53 3 (some .int) 2 := ⟨ca_inT (List.mem_of_getElem? (i := 497) rfl) rfl, w_in_J9, by decide +kernel, by decide⟩
theorem y_J9_floorMod_7cf53 : ca_YS yJ9_floorMod_7cf53 cJ9_floorMod_7cf53 3 (some .int) 2 := ⟨y0_J9_floorMod_7cf53, ca_inT (List.mem_of_getElem? (i := 496) (by decide +kernel)) rfl⟩
set_option maxRecDepth 100000 in
theorem y0_J9_max_7cf53 : ca_Y yJ9_max_7cf53 cJ9_max_7cf53 2 (some .int) 2 := ⟨ca_inT (List.mem_of_getElem? (i := 161) rfl) rfl, w_in_J9, by decide +kernel, by decide⟩
theorem y_J9_max_7cf53 : ca_YS yJ9_max_7cf53 cJ9_max_7cf53 2 (some .int) 2 := ⟨y0_J9_max_7cf53, ca_inT (List.mem_of_getElem? (i := 160) (by decide +kernel)) rfl⟩
set_option maxRecDepth 100000 in
theorem y0_J9_min_7cf53 : ca_Y yJ9_min_7cf53 cJ9_min_7cf53 2 (some .int) 2 := ⟨ca_inT (List.mem_of_getElem? (i := 485) rfl) rfl, w_in_J9, by decide +kernel, by decide⟩
theorem y_J9_min_7cf53 : ca_YS yJ9_min_7cf53 cJ9_min_7cf53 2 (some .int) 2 := ⟨y0_J9_min_7cf53, ca_inT (List.mem_of_getElem? (i := 484) (by decide +kernel)) rfl⟩
set_option maxRecDepth 100000 in
theorem y0_J0_length_8abf5 : ca_Y yJ0_length_8abf5 cJ0_length_8abf5 1 (some .int) 0 := ⟨ca_inT (List.mem_of_getElem? (i := 258) rfl) rfl, w_in_J0, by decide +kernel, by decide⟩
set_option maxRecDepth 100000 in
theorem y0_J0_isEmpty_aae02 : ca_Y yJ0_isEmpty_aae02 cJ0_isEmpty_aae02 1 (some .boolean) 0 := ⟨ca_inT (List.mem_of_getElem? (i := 313) rfl) rfl, w_in_J0, by decide +kernel, by decide⟩
set_option maxRecDepth 100000 in
theorem y0_J0_charAt_5068e : ca_Y yJ0_charAt_5068e cJ0_charAt_5068e 2 (some .char) 1 := ⟨ca_inT (List.mem_of_getElem? (i := 268) rfl) rfl, w_in_J0, by decide +kernel, by decide⟩
set_option maxRecDepth 100000 in
theorem y0_J0_coder_7d493 : ca_Y yJ0_coder_7d493 cJ0_coder_7d493 1 (some .byte) 0 := ⟨ca_inT (List.mem_of_getElem? (i := 262) rfl) rfl, w_in_J0, by decide +kernel, by decide⟩
set_option maxRecDepth 100000 in
theorem y0_J0_isLatin1_aae02 : ca_Y yJ0_isLatin1_aae02 cJ0_isLatin1_aae02 1 (some .boolean) 0 := ⟨ca_inT (List.mem_of_getElem? (i := 272) rfl) rfl, w_in_J0, by decide +kernel, by decide⟩
set_option maxRecDepth 100000 in
theorem y0_J0_checkIndex_df160 : ca_Y yJ0_checkIndex_df160 cJ0_checkIndex_df160 2 none 2 := ⟨ca_inT (List.mem_of_getElem? (i := 278) rfl) rfl, w_in_J0, by decide +kernel, by decide⟩
theorem y_J0_checkIndex_df160 : ca_YS yJ0_checkIndex_df160 cJ0_checkIndex_df160 2 none 2 := ⟨y0_J0_checkIndex_df160, ca_inT (List.mem_of_getElem? (i := 277) (by decide +kernel)) rfl⟩
set_option maxRecDepth 100000 in
theorem y0_J1_charAt_3b067 : ca_Y yJ1_charAt_3b067 cJ1_charAt_3b067 2 (some .char) 2 := ⟨ca_inT (List.mem_of_getElem? (i := 275) rfl) rfl, w_in_J1, by decide +kernel, by decide⟩
theorem y_J1_charAt_3b067 : ca_YS yJ1_charAt_3b067 cJ1_charAt_3b067 2 (some .char) 2 := ⟨y0_J1_charAt_3b067, ca_inT (List.mem_of_getElem? (i := 274) (by decide +kernel)) rfl⟩
set_option maxRecDepth 100000 in
theorem y0_J2_getChar_3b067 : ca_Y yJ2_getChar_3b067 cJ2_getChar_3b067 2 (some .char) 2 := ⟨ca_inT (List.mem_of_getElem? (i := 296) rfl) rfl, w_in_J2, by decide +kernel, by decide⟩
theorem y_J2_getChar_3b067 : ca_YS yJ2_getChar_3b067 cJ2_getChar_3b067 2 (some .char) 2 := ⟨y0_J2_getChar_3b067, ca_inT (List.mem_of_getElem? (i := 295) (by decide +kernel)) rfl⟩
set_option maxRecDepth 100000 in
theorem y0_J2_length_9d52b : ca_Y yJ2_length_9d52b cJ2_length_9d52b 1 (some .int) 1 := ⟨ca_inT (List.mem_of_getElem? (i := 292) rfl) rfl, w_in_J2, by decide +kernel, by decide⟩
theorem y_J2_length_9d52b : ca_YS yJ2_length_9d52b cJ2_length_9d52b 1 (some .int) 1 := ⟨y0_J2_length_9d52b, ca_inT (List.mem_of_getElem? (i := 291) (by decide +kernel)) rfl⟩
set_option maxRecDepth 100000 in
theorem y0_J2_charAt_3b067 : ca_Y yJ2_charAt_3b067 cJ2_charAt_3b067 2 (some .char) 2 := ⟨ca_inT (List.mem_of_getElem? (i := 286) rfl) rfl, w_in_J2, by decide +kernel, by decide⟩
theorem y_J2_charAt_3b067 : ca_YS yJ2_charAt_3b067 cJ2_charAt_3b067 2 (some .char) 2 := ⟨y0_J2_charAt_3b067, ca_inT (List.mem_of_getElem? (i := 285) (by decide +kernel)) rfl⟩
set_option maxRecDepth 100000 in
theorem y0_J2_checkIndex_2214a : ca_Y yJ2_checkIndex_2214a cJ2_checkIndex_2214a 2 none 2 := ⟨ca_inT (List.mem_of_getElem? (i := 289) rfl) rfl, w_in_J2, by decide +kernel, by decide⟩
theorem y_J2_checkIndex_2214a : ca_YS yJ2_checkIndex_2214a cJ2_checkIndex_2214a 2 none 2 := ⟨y0_J2_checkIndex_2214a, ca_inT (List.mem_of_getElem? (i := 288) (by decide +kernel)) rfl⟩
set_option maxRecDepth 100000 in
theorem y0_J3_checkIndex_8e157 : ca_Y yJ3_checkIndex_8e157 cJ3_checkIndex_8e157 3 (some .int) 3 := ⟨ca_inT (List.mem_of_getElem? (i := 283) rfl) rfl, w_in_J3, by decide +kernel, by decide⟩
theorem y_J3_checkIndex_8e157 : ca_YS yJ3_checkIndex_8e157 cJ3_checkIndex_8e157 3 (some .int) 3 := ⟨y0_J3_checkIndex_8e157, ca_inT (List.mem_of_getElem? (i := 282) (by decide +kernel)) rfl⟩
theorem k_bipush_m9 : (Int8.ofInt (-9)).toInt32 = (-9 : Int32) := by decide
theorem k_bipush_m6 : (Int8.ofInt (-6)).toInt32 = (-6 : Int32) := by decide
theorem k_bipush_m4 : (Int8.ofInt (-4)).toInt32 = (-4 : Int32) := by decide
theorem k_bipush_m3 : (Int8.ofInt (-3)).toInt32 = (-3 : Int32) := by decide
theorem k_bipush_m2 : (Int8.ofInt (-2)).toInt32 = (-2 : Int32) := by decide
theorem k_bipush_6 : (Int8.ofInt 6).toInt32 = (6 : Int32) := by decide
theorem k_bipush_7 : (Int8.ofInt 7).toInt32 = (7 : Int32) := by decide
theorem k_bipush_8 : (Int8.ofInt 8).toInt32 = (8 : Int32) := by decide
theorem k_bipush_9 : (Int8.ofInt 9).toInt32 = (9 : Int32) := by decide
theorem k_bipush_10 : (Int8.ofInt 10).toInt32 = (10 : Int32) := by decide
theorem k_bipush_11 : (Int8.ofInt 11).toInt32 = (11 : Int32) := by decide
theorem k_bipush_12 : (Int8.ofInt 12).toInt32 = (12 : Int32) := by decide
theorem k_bipush_16 : (Int8.ofInt 16).toInt32 = (16 : Int32) := by decide
theorem k_bipush_20 : (Int8.ofInt 20).toInt32 = (20 : Int32) := by decide
theorem k_bipush_24 : (Int8.ofInt 24).toInt32 = (24 : Int32) := by decide
theorem k_bipush_25 : (Int8.ofInt 25).toInt32 = (25 : Int32) := by decide
theorem k_bipush_27 : (Int8.ofInt 27).toInt32 = (27 : Int32) := by decide
theorem k_bipush_31 : (Int8.ofInt 31).toInt32 = (31 : Int32) := by decide
theorem k_bipush_48 : (Int8.ofInt 48).toInt32 = (48 : Int32) := by decide
theorem k_bipush_52 : (Int8.ofInt 52).toInt32 = (52 : Int32) := by decide
theorem k_bipush_57 : (Int8.ofInt 57).toInt32 = (57 : Int32) := by decide
theorem k_bipush_59 : (Int8.ofInt 59).toInt32 = (59 : Int32) := by decide
theorem k_bipush_60 : (Int8.ofInt 60).toInt32 = (60 : Int32) := by decide
theorem k_bipush_63 : (Int8.ofInt 63).toInt32 = (63 : Int32) := by decide
theorem k_bipush_96 : (Int8.ofInt 96).toInt32 = (96 : Int32) := by decide
theorem k_bipush_99 : (Int8.ofInt 99).toInt32 = (99 : Int32) := by decide
theorem k_bipush_101 : (Int8.ofInt 101).toInt32 = (101 : Int32) := by decide
theorem k_bipush_125 : (Int8.ofInt 125).toInt32 = (125 : Int32) := by decide
theorem k_iconst_m1 : Int32.ofInt (-1) = (-1 : Int32) := by decide
theorem k_iconst_0 : Int32.ofInt 0 = (0 : Int32) := by decide
theorem k_iconst_1 : Int32.ofInt 1 = (1 : Int32) := by decide
theorem k_iconst_2 : Int32.ofInt 2 = (2 : Int32) := by decide
theorem k_iconst_3 : Int32.ofInt 3 = (3 : Int32) := by decide
theorem k_iconst_4 : Int32.ofInt 4 = (4 : Int32) := by decide
theorem k_iconst_5 : Int32.ofInt 5 = (5 : Int32) := by decide
theorem k_iconst_6 : Int32.ofInt 6 = (6 : Int32) := by decide
theorem k_sipush_m2000 : (Int16.ofInt (-2000)).toInt32 = (-2000 : Int32) := by decide
theorem k_sipush_m1000 : (Int16.ofInt (-1000)).toInt32 = (-1000 : Int32) := by decide
theorem k_sipush_182 : (Int16.ofInt 182).toInt32 = (182 : Int32) := by decide
theorem k_sipush_200 : (Int16.ofInt 200).toInt32 = (200 : Int32) := by decide
theorem k_sipush_255 : (Int16.ofInt 255).toInt32 = (255 : Int32) := by decide
theorem k_sipush_256 : (Int16.ofInt 256).toInt32 = (256 : Int32) := by decide
theorem k_sipush_999 : (Int16.ofInt 999).toInt32 = (999 : Int32) := by decide
theorem k_lconst_0 : Int64.ofNat ((0 : Fin 2) : Nat) = (0 : Int64) := by decide
theorem k_lconst_1 : Int64.ofNat ((1 : Fin 2) : Nat) = (1 : Int64) := by decide
