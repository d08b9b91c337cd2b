theorem q_24 : (.methodLink "GameNotation" 1 objectInit : Cond) ∈ gw := gw_t (List.mem_of_getElem? (i := 24) (by decide +kernel)) (by decide +kernel)
theorem q_25 : (.instanceMethod objectInit : Cond) ∈ gw := gw_t (List.mem_of_getElem? (i := 25) (by decide +kernel)) (by decide +kernel)
theorem q_26 : (.code objectInit object_method_1_code 1 none : Cond) ∈ gw := gw_t (List.mem_of_getElem? (i := 26) (by decide +kernel)) (by decide +kernel)
theorem q_30 : (.instanceMethod y_ln_init : Cond) ∈ gw := gw_t (List.mem_of_getElem? (i := 30) (by decide +kernel)) (by decide +kernel)
theorem q_31 : (.code y_ln_init prog_3_method_1_code 1 none : Cond) ∈ gw := gw_t (List.mem_of_getElem? (i := 31) (by decide +kernel)) (by decide +kernel)
theorem q_32 : (.methodLink "GameNotation$Line" 3 objectInit : Cond) ∈ gw := gw_t (List.mem_of_getElem? (i := 32) (by decide +kernel)) (by decide +kernel)
theorem q_44 : (.instanceMethod y_rd_init : Cond) ∈ gw := gw_t (List.mem_of_getElem? (i := 44) (by decide +kernel)) (by decide +kernel)
theorem q_45 : (.code y_rd_init prog_5_method_1_code 1 none : Cond) ∈ gw := gw_t (List.mem_of_getElem? (i := 45) (by decide +kernel)) (by decide +kernel)
theorem q_46 : (.methodLink "GameNotation$RecordReader" 3 objectInit : Cond) ∈ gw := gw_t (List.mem_of_getElem? (i := 46) (by decide +kernel)) (by decide +kernel)
theorem q_54 : (.instanceMethod y_td_init : Cond) ∈ gw := gw_t (List.mem_of_getElem? (i := 54) (by decide +kernel)) (by decide +kernel)
theorem q_55 : (.code y_td_init prog_6_method_1_code 1 none : Cond) ∈ gw := gw_t (List.mem_of_getElem? (i := 55) (by decide +kernel)) (by decide +kernel)
theorem q_56 : (.methodLink "GameNotation$Told" 3 objectInit : Cond) ∈ gw := gw_t (List.mem_of_getElem? (i := 56) (by decide +kernel)) (by decide +kernel)
theorem q_71 : (.instanceMethod y_fm_init : Cond) ∈ gw := gw_t (List.mem_of_getElem? (i := 71) (by decide +kernel)) (by decide +kernel)
theorem q_72 : (.code y_fm_init prog_2_method_1_code 1 none : Cond) ∈ gw := gw_t (List.mem_of_getElem? (i := 72) (by decide +kernel)) (by decide +kernel)
theorem q_73 : (.methodLink "GameNotation$Form" 3 objectInit : Cond) ∈ gw := gw_t (List.mem_of_getElem? (i := 73) (by decide +kernel)) (by decide +kernel)
theorem q_96 : (.instanceMethod y_ps_init : Cond) ∈ gw := gw_t (List.mem_of_getElem? (i := 96) (by decide +kernel)) (by decide +kernel)
theorem q_97 : (.code y_ps_init prog_4_method_1_code 1 none : Cond) ∈ gw := gw_t (List.mem_of_getElem? (i := 97) (by decide +kernel)) (by decide +kernel)
theorem q_98 : (.methodLink "GameNotation$Position" 3 objectInit : Cond) ∈ gw := gw_t (List.mem_of_getElem? (i := 98) (by decide +kernel)) (by decide +kernel)
theorem q_112 : (.fieldLink "GameNotation$Position" 19 "GameNotation$Position" "number" "I" : Cond) ∈ gw := gw_t (List.mem_of_getElem? (i := 112) (by decide +kernel)) (by decide +kernel)
theorem q_130 : (.fieldLink "GameNotation" 22 "GameNotation" "reader" "LGameNotation$RecordReader;" : Cond) ∈ gw := gw_t (List.mem_of_getElem? (i := 130) (by decide +kernel)) (by decide +kernel)
theorem q_134 : (.fieldLink "GameNotation" 47 "GameNotation" "spare" "LGameNotation$Position;" : Cond) ∈ gw := gw_t (List.mem_of_getElem? (i := 134) (by decide +kernel)) (by decide +kernel)
theorem k_ln_init : y_ln_init.cls ≠ "java/lang/invoke/MethodHandle" ∧ y_ln_init.cls ≠ "java/lang/invoke/VarHandle" ∧ (parseMethodDescriptor y_ln_init.desc).map (fun d => d.parameters.length) = some 0 := by decide +kernel
theorem k_ps_init : y_ps_init.cls ≠ "java/lang/invoke/MethodHandle" ∧ y_ps_init.cls ≠ "java/lang/invoke/VarHandle" ∧ (parseMethodDescriptor y_ps_init.desc).map (fun d => d.parameters.length) = some 0 := by decide +kernel
theorem k_rd_init : y_rd_init.cls ≠ "java/lang/invoke/MethodHandle" ∧ y_rd_init.cls ≠ "java/lang/invoke/VarHandle" ∧ (parseMethodDescriptor y_rd_init.desc).map (fun d => d.parameters.length) = some 0 := by decide +kernel
theorem k_td_init : y_td_init.cls ≠ "java/lang/invoke/MethodHandle" ∧ y_td_init.cls ≠ "java/lang/invoke/VarHandle" ∧ (parseMethodDescriptor y_td_init.desc).map (fun d => d.parameters.length) = some 0 := by decide +kernel
theorem k_fm_init : y_fm_init.cls ≠ "java/lang/invoke/MethodHandle" ∧ y_fm_init.cls ≠ "java/lang/invoke/VarHandle" ∧ (parseMethodDescriptor y_fm_init.desc).map (fun d => d.parameters.length) = some 0 := by decide +kernel
theorem k_gn_init : y_gn_init.cls ≠ "java/lang/invoke/MethodHandle" ∧ y_gn_init.cls ≠ "java/lang/invoke/VarHandle" ∧ (parseMethodDescriptor y_gn_init.desc).map (fun d => d.parameters.length) = some 0 := by decide +kernel
theorem d_ln_init_0 : decode b_ln_init 0 = .ok (.aload_n 0, 1) := by decide +kernel
theorem d_ln_init_1 : decode b_ln_init 1 = .ok (.invokespecial 3, 3) := by decide +kernel
theorem d_ln_init_4 : decode b_ln_init 4 = .ok (.aload_n 0, 1) := by decide +kernel
theorem d_ln_init_5 : decode b_ln_init 5 = .ok (.bipush 100, 2) := by decide +kernel
theorem d_ln_init_7 : decode b_ln_init 7 = .ok (.newarray .char, 2) := by decide +kernel
theorem d_ln_init_9 : decode b_ln_init 9 = .ok (.putfield 9, 3) := by decide +kernel
theorem d_ln_init_12 : decode b_ln_init 12 = .ok (.return_, 1) := by decide +kernel
theorem d_ps_init_0 : decode b_ps_init 0 = .ok (.aload_n 0, 1) := by decide +kernel
theorem d_ps_init_1 : decode b_ps_init 1 = .ok (.invokespecial 3, 3) := by decide +kernel
theorem d_ps_init_4 : decode b_ps_init 4 = .ok (.aload_n 0, 1) := by decide +kernel
theorem d_ps_init_5 : decode b_ps_init 5 = .ok (.bipush 64, 2) := by decide +kernel
theorem d_ps_init_7 : decode b_ps_init 7 = .ok (.newarray .int, 2) := by decide +kernel
theorem d_ps_init_9 : decode b_ps_init 9 = .ok (.putfield 9, 3) := by decide +kernel
theorem d_ps_init_12 : decode b_ps_init 12 = .ok (.aload_n 0, 1) := by decide +kernel
theorem d_ps_init_13 : decode b_ps_init 13 = .ok (.iconst (-1), 1) := by decide +kernel
theorem d_ps_init_14 : decode b_ps_init 14 = .ok (.putfield 15, 3) := by decide +kernel
theorem d_ps_init_17 : decode b_ps_init 17 = .ok (.aload_n 0, 1) := by decide +kernel
theorem d_ps_init_18 : decode b_ps_init 18 = .ok (.iconst 1, 1) := by decide +kernel
theorem d_ps_init_19 : decode b_ps_init 19 = .ok (.putfield 19, 3) := by decide +kernel
theorem d_ps_init_22 : decode b_ps_init 22 = .ok (.return_, 1) := by decide +kernel
theorem d_rd_init_0 : decode b_rd_init 0 = .ok (.aload_n 0, 1) := by decide +kernel
theorem d_rd_init_1 : decode b_rd_init 1 = .ok (.invokespecial 3, 3) := by decide +kernel
theorem d_rd_init_4 : decode b_rd_init 4 = .ok (.return_, 1) := by decide +kernel
theorem d_td_init_0 : decode b_td_init 0 = .ok (.aload_n 0, 1) := by decide +kernel
theorem d_td_init_1 : decode b_td_init 1 = .ok (.invokespecial 3, 3) := by decide +kernel
theorem d_td_init_4 : decode b_td_init 4 = .ok (.aload_n 0, 1) := by decide +kernel
theorem d_td_init_5 : decode b_td_init 5 = .ok (.sipush 330, 3) := by decide +kernel
theorem d_td_init_8 : decode b_td_init 8 = .ok (.newarray .int, 2) := by decide +kernel
theorem d_td_init_10 : decode b_td_init 10 = .ok (.putfield 9, 3) := by decide +kernel
theorem d_td_init_13 : decode b_td_init 13 = .ok (.aload_n 0, 1) := by decide +kernel
theorem d_td_init_14 : decode b_td_init 14 = .ok (.sipush 330, 3) := by decide +kernel
theorem d_td_init_17 : decode b_td_init 17 = .ok (.newarray .int, 2) := by decide +kernel
theorem d_td_init_19 : decode b_td_init 19 = .ok (.putfield 15, 3) := by decide +kernel
theorem d_td_init_22 : decode b_td_init 22 = .ok (.return_, 1) := by decide +kernel
theorem d_fm_init_0 : decode b_fm_init 0 = .ok (.aload_n 0, 1) := by decide +kernel
theorem d_fm_init_1 : decode b_fm_init 1 = .ok (.invokespecial 3, 3) := by decide +kernel
theorem d_fm_init_4 : decode b_fm_init 4 = .ok (.return_, 1) := by decide +kernel
theorem d_gn_init_0 : decode b_gn_init 0 = .ok (.aload_n 0, 1) := by decide +kernel
theorem d_gn_init_1 : decode b_gn_init 1 = .ok (.invokespecial 1, 3) := by decide +kernel
theorem d_gn_init_4 : decode b_gn_init 4 = .ok (.aload_n 0, 1) := by decide +kernel
theorem d_gn_init_5 : decode b_gn_init 5 = .ok (.new 7, 3) := by decide +kernel
theorem d_gn_init_8 : decode b_gn_init 8 = .ok (.dup, 1) := by decide +kernel
theorem d_gn_init_9 : decode b_gn_init 9 = .ok (.invokespecial 9, 3) := by decide +kernel
theorem d_gn_init_12 : decode b_gn_init 12 = .ok (.putfield 10, 3) := by decide +kernel
theorem d_gn_init_15 : decode b_gn_init 15 = .ok (.aload_n 0, 1) := by decide +kernel
theorem d_gn_init_16 : decode b_gn_init 16 = .ok (.new 7, 3) := by decide +kernel
theorem d_gn_init_19 : decode b_gn_init 19 = .ok (.dup, 1) := by decide +kernel
theorem d_gn_init_20 : decode b_gn_init 20 = .ok (.invokespecial 9, 3) := by decide +kernel
theorem d_gn_init_23 : decode b_gn_init 23 = .ok (.putfield 16, 3) := by decide +kernel
theorem d_gn_init_26 : decode b_gn_init 26 = .ok (.aload_n 0, 1) := by decide +kernel
theorem d_gn_init_27 : decode b_gn_init 27 = .ok (.new 19, 3) := by decide +kernel
theorem d_gn_init_30 : decode b_gn_init 30 = .ok (.dup, 1) := by decide +kernel
theorem d_gn_init_31 : decode b_gn_init 31 = .ok (.invokespecial 21, 3) := by decide +kernel
theorem d_gn_init_34 : decode b_gn_init 34 = .ok (.putfield 22, 3) := by decide +kernel
theorem d_gn_init_37 : decode b_gn_init 37 = .ok (.aload_n 0, 1) := by decide +kernel
theorem d_gn_init_38 : decode b_gn_init 38 = .ok (.new 26, 3) := by decide +kernel
theorem d_gn_init_41 : decode b_gn_init 41 = .ok (.dup, 1) := by decide +kernel
theorem d_gn_init_42 : decode b_gn_init 42 = .ok (.invokespecial 28, 3) := by decide +kernel
theorem d_gn_init_45 : decode b_gn_init 45 = .ok (.putfield 29, 3) := by decide +kernel
theorem d_gn_init_48 : decode b_gn_init 48 = .ok (.aload_n 0, 1) := by decide +kernel
theorem d_gn_init_49 : decode b_gn_init 49 = .ok (.new 33, 3) := by decide +kernel
theorem d_gn_init_52 : decode b_gn_init 52 = .ok (.dup, 1) := by decide +kernel
theorem d_gn_init_53 : decode b_gn_init 53 = .ok (.invokespecial 35, 3) := by decide +kernel
theorem d_gn_init_56 : decode b_gn_init 56 = .ok (.putfield 36, 3) := by decide +kernel
theorem d_gn_init_59 : decode b_gn_init 59 = .ok (.aload_n 0, 1) := by decide +kernel
theorem d_gn_init_60 : decode b_gn_init 60 = .ok (.new 40, 3) := by decide +kernel
theorem d_gn_init_63 : decode b_gn_init 63 = .ok (.dup, 1) := by decide +kernel
theorem d_gn_init_64 : decode b_gn_init 64 = .ok (.invokespecial 42, 3) := by decide +kernel
theorem d_gn_init_67 : decode b_gn_init 67 = .ok (.putfield 43, 3) := by decide +kernel
theorem d_gn_init_70 : decode b_gn_init 70 = .ok (.aload_n 0, 1) := by decide +kernel
theorem d_gn_init_71 : decode b_gn_init 71 = .ok (.new 40, 3) := by decide +kernel
theorem d_gn_init_74 : decode b_gn_init 74 = .ok (.dup, 1) := by decide +kernel
theorem d_gn_init_75 : decode b_gn_init 75 = .ok (.invokespecial 42, 3) := by decide +kernel
theorem d_gn_init_78 : decode b_gn_init 78 = .ok (.putfield 47, 3) := by decide +kernel
theorem d_gn_init_81 : decode b_gn_init 81 = .ok (.return_, 1) := by decide +kernel
