theorem q_7 : (.initialized "GameNotationModel" : Cond) ∈ gw := gw_t (List.mem_of_getElem? (i := 7) (by decide +kernel)) (by decide +kernel)
theorem q_794 : (.fieldLink "GameNotationModel" 35 "GameNotationModel" "thrown" "I" : Cond) ∈ gw := gw_t (List.mem_of_getElem? (i := 794) (by decide +kernel)) (by decide +kernel)
theorem q_801 : (.fieldLink "GameNotationModel" 20 "GameNotationModel" "text" "[I" : Cond) ∈ gw := gw_t (List.mem_of_getElem? (i := 801) (by decide +kernel)) (by decide +kernel)
theorem q_802 : (.fieldLink "GameNotationModel" 38 "GameNotationModel" "size" "I" : Cond) ∈ gw := gw_t (List.mem_of_getElem? (i := 802) (by decide +kernel)) (by decide +kernel)
theorem q_806 : (.fieldLink "GameNotationModel" 43 "GameNotationModel" "at" "I" : Cond) ∈ gw := gw_t (List.mem_of_getElem? (i := 806) (by decide +kernel)) (by decide +kernel)
theorem q_807 : (.fieldLink "GameNotationModel" 29 "GameNotationModel" "newBoard" "[I" : Cond) ∈ gw := gw_t (List.mem_of_getElem? (i := 807) (by decide +kernel)) (by decide +kernel)
theorem q_808 : (.fieldLink "GameNotationModel" 67 "GameNotationModel" "newSide" "I" : Cond) ∈ gw := gw_t (List.mem_of_getElem? (i := 808) (by decide +kernel)) (by decide +kernel)
theorem q_809 : (.fieldLink "GameNotationModel" 61 "GameNotationModel" "newRights" "I" : Cond) ∈ gw := gw_t (List.mem_of_getElem? (i := 809) (by decide +kernel)) (by decide +kernel)
theorem q_810 : (.fieldLink "GameNotationModel" 64 "GameNotationModel" "newPassant" "I" : Cond) ∈ gw := gw_t (List.mem_of_getElem? (i := 810) (by decide +kernel)) (by decide +kernel)
theorem q_811 : (.fieldLink "GameNotationModel" 86 "GameNotationModel" "newClock" "I" : Cond) ∈ gw := gw_t (List.mem_of_getElem? (i := 811) (by decide +kernel)) (by decide +kernel)
theorem q_812 : (.fieldLink "GameNotationModel" 89 "GameNotationModel" "newNumber" "I" : Cond) ∈ gw := gw_t (List.mem_of_getElem? (i := 812) (by decide +kernel)) (by decide +kernel)
theorem q_866 : (.constantLong "GameNotationModel" 41 255 : Cond) ∈ gw := gw_t (List.mem_of_getElem? (i := 866) (by decide +kernel)) (by decide +kernel)
theorem q_883 : (.methodLink "GameNotationModel" 73 y_md_readBoard : Cond) ∈ gw := gw_t (List.mem_of_getElem? (i := 883) (by decide +kernel)) (by decide +kernel)
theorem q_885 : (.instanceMethod y_md_readBoard : Cond) ∈ gw := gw_t (List.mem_of_getElem? (i := 885) (by decide +kernel)) (by decide +kernel)
theorem q_886 : (.code y_md_readBoard prog_8_method_11_code 8 (some .boolean) : Cond) ∈ gw := gw_t (List.mem_of_getElem? (i := 886) (by decide +kernel)) (by decide +kernel)
theorem q_887 : (.methodLink "GameNotationModel" 46 y_md_peek : Cond) ∈ gw := gw_t (List.mem_of_getElem? (i := 887) (by decide +kernel)) (by decide +kernel)
theorem q_889 : (.instanceMethod y_md_peek : Cond) ∈ gw := gw_t (List.mem_of_getElem? (i := 889) (by decide +kernel)) (by decide +kernel)
theorem q_890 : (.code y_md_peek prog_8_method_6_code 1 (some .int) : Cond) ∈ gw := gw_t (List.mem_of_getElem? (i := 890) (by decide +kernel)) (by decide +kernel)
theorem q_891 : (.methodLink "GameNotationModel" 54 y_md_manOf : Cond) ∈ gw := gw_t (List.mem_of_getElem? (i := 891) (by decide +kernel)) (by decide +kernel)
theorem q_892 : (.static y_md_manOf : Cond) ∈ gw := gw_t (List.mem_of_getElem? (i := 892) (by decide +kernel)) (by decide +kernel)
theorem q_893 : (.code y_md_manOf prog_8_method_9_code 3 (some .int) : Cond) ∈ gw := gw_t (List.mem_of_getElem? (i := 893) (by decide +kernel)) (by decide +kernel)
theorem q_894 : (.methodLink "GameNotationModel" 50 y_md_letter : Cond) ∈ gw := gw_t (List.mem_of_getElem? (i := 894) (by decide +kernel)) (by decide +kernel)
theorem q_895 : (.static y_md_letter : Cond) ∈ gw := gw_t (List.mem_of_getElem? (i := 895) (by decide +kernel)) (by decide +kernel)
theorem q_896 : (.code y_md_letter prog_8_method_8_code 3 (some .int) : Cond) ∈ gw := gw_t (List.mem_of_getElem? (i := 896) (by decide +kernel)) (by decide +kernel)
theorem q_897 : (.methodLink "GameNotationModel" 57 y_md_eat : Cond) ∈ gw := gw_t (List.mem_of_getElem? (i := 897) (by decide +kernel)) (by decide +kernel)
theorem q_899 : (.instanceMethod y_md_eat : Cond) ∈ gw := gw_t (List.mem_of_getElem? (i := 899) (by decide +kernel)) (by decide +kernel)
theorem q_900 : (.code y_md_eat prog_8_method_7_code 2 (some .boolean) : Cond) ∈ gw := gw_t (List.mem_of_getElem? (i := 900) (by decide +kernel)) (by decide +kernel)
theorem q_901 : (.methodLink "GameNotationModel" 77 y_md_readRights : Cond) ∈ gw := gw_t (List.mem_of_getElem? (i := 901) (by decide +kernel)) (by decide +kernel)
theorem q_903 : (.instanceMethod y_md_readRights : Cond) ∈ gw := gw_t (List.mem_of_getElem? (i := 903) (by decide +kernel)) (by decide +kernel)
theorem q_904 : (.code y_md_readRights prog_8_method_12_code 1 (some .boolean) : Cond) ∈ gw := gw_t (List.mem_of_getElem? (i := 904) (by decide +kernel)) (by decide +kernel)
theorem q_905 : (.methodLink "GameNotationModel" 80 y_md_readPassant : Cond) ∈ gw := gw_t (List.mem_of_getElem? (i := 905) (by decide +kernel)) (by decide +kernel)
theorem q_907 : (.instanceMethod y_md_readPassant : Cond) ∈ gw := gw_t (List.mem_of_getElem? (i := 907) (by decide +kernel)) (by decide +kernel)
theorem q_908 : (.code y_md_readPassant prog_8_method_13_code 1 (some .boolean) : Cond) ∈ gw := gw_t (List.mem_of_getElem? (i := 908) (by decide +kernel)) (by decide +kernel)
theorem q_909 : (.methodLink "GameNotationModel" 83 y_md_readNumber : Cond) ∈ gw := gw_t (List.mem_of_getElem? (i := 909) (by decide +kernel)) (by decide +kernel)
theorem q_911 : (.instanceMethod y_md_readNumber : Cond) ∈ gw := gw_t (List.mem_of_getElem? (i := 911) (by decide +kernel)) (by decide +kernel)
theorem q_912 : (.code y_md_readNumber prog_8_method_14_code 5 (some .int) : Cond) ∈ gw := gw_t (List.mem_of_getElem? (i := 912) (by decide +kernel)) (by decide +kernel)
theorem q_913 : (.methodLink "GameNotationModel" 70 y_md_isDigit : Cond) ∈ gw := gw_t (List.mem_of_getElem? (i := 913) (by decide +kernel)) (by decide +kernel)
theorem q_914 : (.static y_md_isDigit : Cond) ∈ gw := gw_t (List.mem_of_getElem? (i := 914) (by decide +kernel)) (by decide +kernel)
theorem q_915 : (.code y_md_isDigit prog_8_method_10_code 1 (some .boolean) : Cond) ∈ gw := gw_t (List.mem_of_getElem? (i := 915) (by decide +kernel)) (by decide +kernel)
theorem q_916 : (.methodLink "GameNotationModel" 95 y_md_howMany : Cond) ∈ gw := gw_t (List.mem_of_getElem? (i := 916) (by decide +kernel)) (by decide +kernel)
theorem q_918 : (.instanceMethod y_md_howMany : Cond) ∈ gw := gw_t (List.mem_of_getElem? (i := 918) (by decide +kernel)) (by decide +kernel)
theorem q_919 : (.code y_md_howMany prog_8_method_16_code 4 (some .int) : Cond) ∈ gw := gw_t (List.mem_of_getElem? (i := 919) (by decide +kernel)) (by decide +kernel)
theorem q_924 : (.methodLink "GameNotationModel" 92 y_md_tooMany : Cond) ∈ gw := gw_t (List.mem_of_getElem? (i := 924) (by decide +kernel)) (by decide +kernel)
theorem q_926 : (.instanceMethod y_md_tooMany : Cond) ∈ gw := gw_t (List.mem_of_getElem? (i := 926) (by decide +kernel)) (by decide +kernel)
theorem q_927 : (.code y_md_tooMany prog_8_method_21_code 4 (some .boolean) : Cond) ∈ gw := gw_t (List.mem_of_getElem? (i := 927) (by decide +kernel)) (by decide +kernel)
theorem q_928 : (.methodLink "GameNotationModel" 98 y_md_above : Cond) ∈ gw := gw_t (List.mem_of_getElem? (i := 928) (by decide +kernel)) (by decide +kernel)
theorem q_929 : (.static y_md_above : Cond) ∈ gw := gw_t (List.mem_of_getElem? (i := 929) (by decide +kernel)) (by decide +kernel)
theorem q_930 : (.code y_md_above prog_8_method_20_code 2 (some .int) : Cond) ∈ gw := gw_t (List.mem_of_getElem? (i := 930) (by decide +kernel)) (by decide +kernel)
theorem qs_33 : (.selects "GameNotationModel" y_md_readBoard y_md_readBoard : Cond) ∈ gw := gw_s (List.mem_of_getElem? (i := 33) (by decide +kernel)) (by decide +kernel)
theorem qs_34 : (.selects "GameNotationModel" y_md_peek y_md_peek : Cond) ∈ gw := gw_s (List.mem_of_getElem? (i := 34) (by decide +kernel)) (by decide +kernel)
theorem qs_35 : (.selects "GameNotationModel" y_md_eat y_md_eat : Cond) ∈ gw := gw_s (List.mem_of_getElem? (i := 35) (by decide +kernel)) (by decide +kernel)
theorem qs_36 : (.selects "GameNotationModel" y_md_readRights y_md_readRights : Cond) ∈ gw := gw_s (List.mem_of_getElem? (i := 36) (by decide +kernel)) (by decide +kernel)
theorem qs_37 : (.selects "GameNotationModel" y_md_readPassant y_md_readPassant : Cond) ∈ gw := gw_s (List.mem_of_getElem? (i := 37) (by decide +kernel)) (by decide +kernel)
theorem qs_38 : (.selects "GameNotationModel" y_md_readNumber y_md_readNumber : Cond) ∈ gw := gw_s (List.mem_of_getElem? (i := 38) (by decide +kernel)) (by decide +kernel)
theorem qs_39 : (.selects "GameNotationModel" y_md_howMany y_md_howMany : Cond) ∈ gw := gw_s (List.mem_of_getElem? (i := 39) (by decide +kernel)) (by decide +kernel)
theorem qs_41 : (.selects "GameNotationModel" y_md_tooMany y_md_tooMany : Cond) ∈ gw := gw_s (List.mem_of_getElem? (i := 41) (by decide +kernel)) (by decide +kernel)
theorem k_md_thrown : y_md_thrown.cls ≠ "java/lang/invoke/MethodHandle" ∧ y_md_thrown.cls ≠ "java/lang/invoke/VarHandle" ∧ (parseMethodDescriptor y_md_thrown.desc).map (fun d => d.parameters.length) = some 0 := by decide +kernel
theorem k_md_type : y_md_type.cls ≠ "java/lang/invoke/MethodHandle" ∧ y_md_type.cls ≠ "java/lang/invoke/VarHandle" ∧ (parseMethodDescriptor y_md_type.desc).map (fun d => d.parameters.length) = some 1 := by decide +kernel
theorem k_md_wipe : y_md_wipe.cls ≠ "java/lang/invoke/MethodHandle" ∧ y_md_wipe.cls ≠ "java/lang/invoke/VarHandle" ∧ (parseMethodDescriptor y_md_wipe.desc).map (fun d => d.parameters.length) = some 0 := by decide +kernel
theorem k_md_text : y_md_text.cls ≠ "java/lang/invoke/MethodHandle" ∧ y_md_text.cls ≠ "java/lang/invoke/VarHandle" ∧ (parseMethodDescriptor y_md_text.desc).map (fun d => d.parameters.length) = some 1 := by decide +kernel
theorem k_md_peek : y_md_peek.cls ≠ "java/lang/invoke/MethodHandle" ∧ y_md_peek.cls ≠ "java/lang/invoke/VarHandle" ∧ (parseMethodDescriptor y_md_peek.desc).map (fun d => d.parameters.length) = some 0 := by decide +kernel
theorem k_md_eat : y_md_eat.cls ≠ "java/lang/invoke/MethodHandle" ∧ y_md_eat.cls ≠ "java/lang/invoke/VarHandle" ∧ (parseMethodDescriptor y_md_eat.desc).map (fun d => d.parameters.length) = some 1 := by decide +kernel
theorem k_md_letter : y_md_letter.cls ≠ "java/lang/invoke/MethodHandle" ∧ y_md_letter.cls ≠ "java/lang/invoke/VarHandle" ∧ (parseMethodDescriptor y_md_letter.desc).map (fun d => d.parameters.length) = some 1 := by decide +kernel
theorem k_md_manOf : y_md_manOf.cls ≠ "java/lang/invoke/MethodHandle" ∧ y_md_manOf.cls ≠ "java/lang/invoke/VarHandle" ∧ (parseMethodDescriptor y_md_manOf.desc).map (fun d => d.parameters.length) = some 1 := by decide +kernel
theorem k_md_isDigit : y_md_isDigit.cls ≠ "java/lang/invoke/MethodHandle" ∧ y_md_isDigit.cls ≠ "java/lang/invoke/VarHandle" ∧ (parseMethodDescriptor y_md_isDigit.desc).map (fun d => d.parameters.length) = some 1 := by decide +kernel
theorem k_md_readRights : y_md_readRights.cls ≠ "java/lang/invoke/MethodHandle" ∧ y_md_readRights.cls ≠ "java/lang/invoke/VarHandle" ∧ (parseMethodDescriptor y_md_readRights.desc).map (fun d => d.parameters.length) = some 0 := by decide +kernel
theorem k_md_readPassant : y_md_readPassant.cls ≠ "java/lang/invoke/MethodHandle" ∧ y_md_readPassant.cls ≠ "java/lang/invoke/VarHandle" ∧ (parseMethodDescriptor y_md_readPassant.desc).map (fun d => d.parameters.length) = some 0 := by decide +kernel
theorem k_md_readNumber : y_md_readNumber.cls ≠ "java/lang/invoke/MethodHandle" ∧ y_md_readNumber.cls ≠ "java/lang/invoke/VarHandle" ∧ (parseMethodDescriptor y_md_readNumber.desc).map (fun d => d.parameters.length) = some 1 := by decide +kernel
theorem k_md_readBoard : y_md_readBoard.cls ≠ "java/lang/invoke/MethodHandle" ∧ y_md_readBoard.cls ≠ "java/lang/invoke/VarHandle" ∧ (parseMethodDescriptor y_md_readBoard.desc).map (fun d => d.parameters.length) = some 0 := by decide +kernel
theorem k_md_readFields : y_md_readFields.cls ≠ "java/lang/invoke/MethodHandle" ∧ y_md_readFields.cls ≠ "java/lang/invoke/VarHandle" ∧ (parseMethodDescriptor y_md_readFields.desc).map (fun d => d.parameters.length) = some 0 := by decide +kernel
theorem k_md_howMany : y_md_howMany.cls ≠ "java/lang/invoke/MethodHandle" ∧ y_md_howMany.cls ≠ "java/lang/invoke/VarHandle" ∧ (parseMethodDescriptor y_md_howMany.desc).map (fun d => d.parameters.length) = some 1 := by decide +kernel
theorem k_md_kingOf : y_md_kingOf.cls ≠ "java/lang/invoke/MethodHandle" ∧ y_md_kingOf.cls ≠ "java/lang/invoke/VarHandle" ∧ (parseMethodDescriptor y_md_kingOf.desc).map (fun d => d.parameters.length) = some 1 := by decide +kernel
theorem k_md_rightsFit : y_md_rightsFit.cls ≠ "java/lang/invoke/MethodHandle" ∧ y_md_rightsFit.cls ≠ "java/lang/invoke/VarHandle" ∧ (parseMethodDescriptor y_md_rightsFit.desc).map (fun d => d.parameters.length) = some 0 := by decide +kernel
theorem k_md_passantFits : y_md_passantFits.cls ≠ "java/lang/invoke/MethodHandle" ∧ y_md_passantFits.cls ≠ "java/lang/invoke/VarHandle" ∧ (parseMethodDescriptor y_md_passantFits.desc).map (fun d => d.parameters.length) = some 0 := by decide +kernel
theorem k_md_above : y_md_above.cls ≠ "java/lang/invoke/MethodHandle" ∧ y_md_above.cls ≠ "java/lang/invoke/VarHandle" ∧ (parseMethodDescriptor y_md_above.desc).map (fun d => d.parameters.length) = some 2 := by decide +kernel
theorem k_md_tooMany : y_md_tooMany.cls ≠ "java/lang/invoke/MethodHandle" ∧ y_md_tooMany.cls ≠ "java/lang/invoke/VarHandle" ∧ (parseMethodDescriptor y_md_tooMany.desc).map (fun d => d.parameters.length) = some 1 := by decide +kernel
theorem k_md_pawnsFit : y_md_pawnsFit.cls ≠ "java/lang/invoke/MethodHandle" ∧ y_md_pawnsFit.cls ≠ "java/lang/invoke/VarHandle" ∧ (parseMethodDescriptor y_md_pawnsFit.desc).map (fun d => d.parameters.length) = some 0 := by decide +kernel
