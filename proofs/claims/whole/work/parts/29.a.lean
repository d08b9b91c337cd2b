theorem q_185 : (.methodLink "GameNotation" 69 y_rd_readInto : Cond) ∈ gw := gw_t (List.mem_of_getElem? (i := 185) (by decide +kernel)) (by decide +kernel)
theorem q_186 : (.instanceMethod y_rd_readInto : Cond) ∈ gw := gw_t (List.mem_of_getElem? (i := 186) (by decide +kernel)) (by decide +kernel)
theorem q_187 : (.selects "GameNotation$RecordReader" y_rd_readInto y_rd_readInto : Cond) ∈ gw := gw_t (List.mem_of_getElem? (i := 187) (by decide +kernel)) (by decide +kernel)
theorem q_188 : (.code y_rd_readInto prog_5_method_2_code 3 (some .int) : Cond) ∈ gw := gw_t (List.mem_of_getElem? (i := 188) (by decide +kernel)) (by decide +kernel)
theorem q_354 : (.methodLink "GameNotation" 73 y_ps_firstFault : Cond) ∈ gw := gw_t (List.mem_of_getElem? (i := 354) (by decide +kernel)) (by decide +kernel)
theorem q_355 : (.instanceMethod y_ps_firstFault : Cond) ∈ gw := gw_t (List.mem_of_getElem? (i := 355) (by decide +kernel)) (by decide +kernel)
theorem q_356 : (.selects "GameNotation$Position" y_ps_firstFault y_ps_firstFault : Cond) ∈ gw := gw_t (List.mem_of_getElem? (i := 356) (by decide +kernel)) (by decide +kernel)
theorem q_357 : (.code y_ps_firstFault prog_4_method_7_code 1 (some .int) : Cond) ∈ gw := gw_t (List.mem_of_getElem? (i := 357) (by decide +kernel)) (by decide +kernel)
theorem q_761 : (.methodLink "GameNotation" 134 y_ps_isAttacked : Cond) ∈ gw := gw_t (List.mem_of_getElem? (i := 761) (by decide +kernel)) (by decide +kernel)
theorem q_770 : (.methodLink "GameNotation" 156 y_td_indexOf : Cond) ∈ gw := gw_t (List.mem_of_getElem? (i := 770) (by decide +kernel)) (by decide +kernel)
theorem k_gn_record : y_gn_record.cls ≠ "java/lang/invoke/MethodHandle" ∧ y_gn_record.cls ≠ "java/lang/invoke/VarHandle" ∧ (parseMethodDescriptor y_gn_record.desc).map (fun d => d.parameters.length) = some 0 := by decide +kernel
theorem k_gn_attacked : y_gn_attacked.cls ≠ "java/lang/invoke/MethodHandle" ∧ y_gn_attacked.cls ≠ "java/lang/invoke/VarHandle" ∧ (parseMethodDescriptor y_gn_attacked.desc).map (fun d => d.parameters.length) = some 2 := by decide +kernel
theorem k_gn_spell : y_gn_spell.cls ≠ "java/lang/invoke/MethodHandle" ∧ y_gn_spell.cls ≠ "java/lang/invoke/VarHandle" ∧ (parseMethodDescriptor y_gn_spell.desc).map (fun d => d.parameters.length) = some 1 := by decide +kernel
theorem d_gn_record_0 : decode b_gn_record 0 = .ok (.aload_n 0, 1) := by decide +kernel
theorem d_gn_record_1 : decode b_gn_record 1 = .ok (.getfield 22, 3) := by decide +kernel
theorem d_gn_record_4 : decode b_gn_record 4 = .ok (.aload_n 0, 1) := by decide +kernel
theorem d_gn_record_5 : decode b_gn_record 5 = .ok (.getfield 47, 3) := by decide +kernel
theorem d_gn_record_8 : decode b_gn_record 8 = .ok (.aload_n 0, 1) := by decide +kernel
theorem d_gn_record_9 : decode b_gn_record 9 = .ok (.getfield 10, 3) := by decide +kernel
theorem d_gn_record_12 : decode b_gn_record 12 = .ok (.invokevirtual 69, 3) := by decide +kernel
theorem d_gn_record_15 : decode b_gn_record 15 = .ok (.istore_n 1, 1) := by decide +kernel
theorem d_gn_record_16 : decode b_gn_record 16 = .ok (.iload_n 1, 1) := by decide +kernel
theorem d_gn_record_17 : decode b_gn_record 17 = .ok (.ifCond .ne 11, 3) := by decide +kernel
theorem d_gn_record_20 : decode b_gn_record 20 = .ok (.aload_n 0, 1) := by decide +kernel
theorem d_gn_record_21 : decode b_gn_record 21 = .ok (.getfield 47, 3) := by decide +kernel
theorem d_gn_record_24 : decode b_gn_record 24 = .ok (.invokevirtual 73, 3) := by decide +kernel
theorem d_gn_record_27 : decode b_gn_record 27 = .ok (.istore_n 1, 1) := by decide +kernel
theorem d_gn_record_28 : decode b_gn_record 28 = .ok (.iload_n 1, 1) := by decide +kernel
theorem d_gn_record_29 : decode b_gn_record 29 = .ok (.ifCond .ne 28, 3) := by decide +kernel
theorem d_gn_record_32 : decode b_gn_record 32 = .ok (.aload_n 0, 1) := by decide +kernel
theorem d_gn_record_33 : decode b_gn_record 33 = .ok (.getfield 43, 3) := by decide +kernel
theorem d_gn_record_36 : decode b_gn_record 36 = .ok (.astore_n 2, 1) := by decide +kernel
theorem d_gn_record_37 : decode b_gn_record 37 = .ok (.aload_n 0, 1) := by decide +kernel
theorem d_gn_record_38 : decode b_gn_record 38 = .ok (.aload_n 0, 1) := by decide +kernel
theorem d_gn_record_39 : decode b_gn_record 39 = .ok (.getfield 47, 3) := by decide +kernel
theorem d_gn_record_42 : decode b_gn_record 42 = .ok (.putfield 43, 3) := by decide +kernel
theorem d_gn_record_45 : decode b_gn_record 45 = .ok (.aload_n 0, 1) := by decide +kernel
theorem d_gn_record_46 : decode b_gn_record 46 = .ok (.aload_n 2, 1) := by decide +kernel
theorem d_gn_record_47 : decode b_gn_record 47 = .ok (.putfield 47, 3) := by decide +kernel
theorem d_gn_record_50 : decode b_gn_record 50 = .ok (.aload_n 0, 1) := by decide +kernel
theorem d_gn_record_51 : decode b_gn_record 51 = .ok (.getfield 29, 3) := by decide +kernel
theorem d_gn_record_54 : decode b_gn_record 54 = .ok (.invokevirtual 76, 3) := by decide +kernel
theorem d_gn_record_57 : decode b_gn_record 57 = .ok (.iload_n 1, 1) := by decide +kernel
theorem d_gn_record_58 : decode b_gn_record 58 = .ok (.ireturn, 1) := by decide +kernel
theorem d_gn_attacked_0 : decode b_gn_attacked 0 = .ok (.iload_n 1, 1) := by decide +kernel
theorem d_gn_attacked_1 : decode b_gn_attacked 1 = .ok (.invokestatic 106, 3) := by decide +kernel
theorem d_gn_attacked_4 : decode b_gn_attacked 4 = .ok (.ifCond .eq 10, 3) := by decide +kernel
theorem d_gn_attacked_7 : decode b_gn_attacked 7 = .ok (.iload_n 2, 1) := by decide +kernel
theorem d_gn_attacked_8 : decode b_gn_attacked 8 = .ok (.invokestatic 114, 3) := by decide +kernel
theorem d_gn_attacked_11 : decode b_gn_attacked 11 = .ok (.ifCond .ne 13, 3) := by decide +kernel
theorem d_gn_attacked_14 : decode b_gn_attacked 14 = .ok (.new 127, 3) := by decide +kernel
theorem d_gn_attacked_17 : decode b_gn_attacked 17 = .ok (.dup, 1) := by decide +kernel
theorem d_gn_attacked_18 : decode b_gn_attacked 18 = .ok (.ldc 129, 2) := by decide +kernel
theorem d_gn_attacked_20 : decode b_gn_attacked 20 = .ok (.invokespecial 131, 3) := by decide +kernel
theorem d_gn_attacked_23 : decode b_gn_attacked 23 = .ok (.athrow, 1) := by decide +kernel
theorem d_gn_attacked_24 : decode b_gn_attacked 24 = .ok (.aload_n 0, 1) := by decide +kernel
theorem d_gn_attacked_25 : decode b_gn_attacked 25 = .ok (.getfield 43, 3) := by decide +kernel
theorem d_gn_attacked_28 : decode b_gn_attacked 28 = .ok (.iload_n 1, 1) := by decide +kernel
theorem d_gn_attacked_29 : decode b_gn_attacked 29 = .ok (.iload_n 2, 1) := by decide +kernel
theorem d_gn_attacked_30 : decode b_gn_attacked 30 = .ok (.invokevirtual 134, 3) := by decide +kernel
theorem d_gn_attacked_33 : decode b_gn_attacked 33 = .ok (.ireturn, 1) := by decide +kernel
theorem d_gn_spell_0 : decode b_gn_spell 0 = .ok (.aload_n 0, 1) := by decide +kernel
theorem d_gn_spell_1 : decode b_gn_spell 1 = .ok (.getfield 29, 3) := by decide +kernel
theorem d_gn_spell_4 : decode b_gn_spell 4 = .ok (.iload_n 1, 1) := by decide +kernel
theorem d_gn_spell_5 : decode b_gn_spell 5 = .ok (.invokevirtual 156, 3) := by decide +kernel
theorem d_gn_spell_8 : decode b_gn_spell 8 = .ok (.istore_n 2, 1) := by decide +kernel
theorem d_gn_spell_9 : decode b_gn_spell 9 = .ok (.iload_n 2, 1) := by decide +kernel
theorem d_gn_spell_10 : decode b_gn_spell 10 = .ok (.iconst (-1), 1) := by decide +kernel
theorem d_gn_spell_11 : decode b_gn_spell 11 = .ok (.if_icmp .ne 13, 3) := by decide +kernel
theorem d_gn_spell_14 : decode b_gn_spell 14 = .ok (.new 159, 3) := by decide +kernel
theorem d_gn_spell_17 : decode b_gn_spell 17 = .ok (.dup, 1) := by decide +kernel
theorem d_gn_spell_18 : decode b_gn_spell 18 = .ok (.ldc 161, 2) := by decide +kernel
theorem d_gn_spell_20 : decode b_gn_spell 20 = .ok (.invokespecial 163, 3) := by decide +kernel
theorem d_gn_spell_23 : decode b_gn_spell 23 = .ok (.athrow, 1) := by decide +kernel
theorem d_gn_spell_24 : decode b_gn_spell 24 = .ok (.aload_n 0, 1) := by decide +kernel
theorem d_gn_spell_25 : decode b_gn_spell 25 = .ok (.getfield 10, 3) := by decide +kernel
theorem d_gn_spell_28 : decode b_gn_spell 28 = .ok (.invokevirtual 62, 3) := by decide +kernel
theorem d_gn_spell_31 : decode b_gn_spell 31 = .ok (.aload_n 0, 1) := by decide +kernel
theorem d_gn_spell_32 : decode b_gn_spell 32 = .ok (.getfield 29, 3) := by decide +kernel
theorem d_gn_spell_35 : decode b_gn_spell 35 = .ok (.aload_n 0, 1) := by decide +kernel
theorem d_gn_spell_36 : decode b_gn_spell 36 = .ok (.getfield 10, 3) := by decide +kernel
theorem d_gn_spell_39 : decode b_gn_spell 39 = .ok (.iload_n 2, 1) := by decide +kernel
theorem d_gn_spell_40 : decode b_gn_spell 40 = .ok (.aload_n 0, 1) := by decide +kernel
theorem d_gn_spell_41 : decode b_gn_spell 41 = .ok (.getfield 43, 3) := by decide +kernel
theorem d_gn_spell_44 : decode b_gn_spell 44 = .ok (.invokevirtual 164, 3) := by decide +kernel
theorem d_gn_spell_47 : decode b_gn_spell 47 = .ok (.aload_n 0, 1) := by decide +kernel
theorem d_gn_spell_48 : decode b_gn_spell 48 = .ok (.getfield 29, 3) := by decide +kernel
theorem d_gn_spell_51 : decode b_gn_spell 51 = .ok (.iload_n 2, 1) := by decide +kernel
theorem d_gn_spell_52 : decode b_gn_spell 52 = .ok (.invokevirtual 168, 3) := by decide +kernel
theorem d_gn_spell_55 : decode b_gn_spell 55 = .ok (.istore_n 3, 1) := by decide +kernel
theorem d_gn_spell_56 : decode b_gn_spell 56 = .ok (.iload_n 3, 1) := by decide +kernel
theorem d_gn_spell_57 : decode b_gn_spell 57 = .ok (.ifCond .le 18, 3) := by decide +kernel
theorem d_gn_spell_60 : decode b_gn_spell 60 = .ok (.aload_n 0, 1) := by decide +kernel
theorem d_gn_spell_61 : decode b_gn_spell 61 = .ok (.getfield 10, 3) := by decide +kernel
theorem d_gn_spell_64 : decode b_gn_spell 64 = .ok (.ldc 171, 2) := by decide +kernel
theorem d_gn_spell_66 : decode b_gn_spell 66 = .ok (.iload_n 3, 1) := by decide +kernel
theorem d_gn_spell_67 : decode b_gn_spell 67 = .ok (.iconst 1, 1) := by decide +kernel
theorem d_gn_spell_68 : decode b_gn_spell 68 = .ok (.isub, 1) := by decide +kernel
theorem d_gn_spell_69 : decode b_gn_spell 69 = .ok (.invokestatic 86, 3) := by decide +kernel
theorem d_gn_spell_72 : decode b_gn_spell 72 = .ok (.invokevirtual 58, 3) := by decide +kernel
theorem d_gn_spell_75 : decode b_gn_spell 75 = .ok (.aload_n 0, 1) := by decide +kernel
theorem d_gn_spell_76 : decode b_gn_spell 76 = .ok (.getfield 10, 3) := by decide +kernel
theorem d_gn_spell_79 : decode b_gn_spell 79 = .ok (.invokevirtual 54, 3) := by decide +kernel
theorem d_gn_spell_82 : decode b_gn_spell 82 = .ok (.ireturn, 1) := by decide +kernel
