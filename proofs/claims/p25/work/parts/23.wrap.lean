theorem mn_0 : Cond.constant RL 7 (2147483647) ∈ ALL := ALL_i (List.mem_append_right _ (List.mem_append_right _ (List.mem_append_left _ (List.mem_of_getElem? (i := 41) (by decide +kernel))))) (by decide +kernel)
theorem mn_1 : Cond.methodLink RL 8 yX3_layer ∈ ALL := ALL_i (List.mem_append_right _ (List.mem_append_right _ (List.mem_append_left _ (List.mem_of_getElem? (i := 48) (by decide +kernel))))) (by decide +kernel)
theorem mn_2 : Cond.instanceMethod yX3_layer ∈ ALL := ALL_i (List.mem_append_right _ (List.mem_append_right _ (List.mem_append_left _ (List.mem_of_getElem? (i := 49) (by decide +kernel))))) (by decide +kernel)
theorem mn_3 : Cond.selects RX3 yX3_layer yX3_layer ∈ ALL := ALL_i (List.mem_append_right _ (List.mem_append_right _ (List.mem_append_left _ (List.mem_of_getElem? (i := 50) (by decide +kernel))))) (by decide +kernel)
theorem mn_4 : Cond.code yX3_layer cX3_layer 6 none ∈ ALL := ALL_i (List.mem_append_right _ (List.mem_append_right _ (List.mem_append_left _ (List.mem_of_getElem? (i := 51) (by decide +kernel))))) (by decide +kernel)
theorem mn_5 : Cond.constant RL 16 (-2000000000) ∈ ALL := ALL_i (List.mem_append_right _ (List.mem_append_right _ (List.mem_append_left _ (List.mem_of_getElem? (i := 75) (by decide +kernel))))) (by decide +kernel)
theorem mn_6 : Cond.methodLink RL 21 yX3_mud ∈ ALL := ALL_i (List.mem_append_right _ (List.mem_append_right _ (List.mem_append_left _ (List.mem_of_getElem? (i := 79) (by decide +kernel))))) (by decide +kernel)
theorem mn_7 : Cond.instanceMethod yX3_mud ∈ ALL := ALL_i (List.mem_append_right _ (List.mem_append_right _ (List.mem_append_left _ (List.mem_of_getElem? (i := 80) (by decide +kernel))))) (by decide +kernel)
theorem mn_8 : Cond.selects RX3 yX3_mud yX3_mud ∈ ALL := ALL_i (List.mem_append_right _ (List.mem_append_right _ (List.mem_append_left _ (List.mem_of_getElem? (i := 81) (by decide +kernel))))) (by decide +kernel)
theorem mn_9 : Cond.code yX3_mud cX3_mud 3 (some .int) ∈ ALL := ALL_i (List.mem_append_right _ (List.mem_append_right _ (List.mem_append_left _ (List.mem_of_getElem? (i := 82) (by decide +kernel))))) (by decide +kernel)
theorem mn_10 : Cond.methodLink RL 25 yX3_drill ∈ ALL := ALL_i (List.mem_append_right _ (List.mem_append_right _ (List.mem_append_left _ (List.mem_of_getElem? (i := 88) (by decide +kernel))))) (by decide +kernel)
theorem mn_11 : Cond.instanceMethod yX3_drill ∈ ALL := ALL_i (List.mem_append_right _ (List.mem_append_right _ (List.mem_append_left _ (List.mem_of_getElem? (i := 89) (by decide +kernel))))) (by decide +kernel)
theorem mn_12 : Cond.selects RX3 yX3_drill yX3_drill ∈ ALL := ALL_i (List.mem_append_right _ (List.mem_append_right _ (List.mem_append_left _ (List.mem_of_getElem? (i := 90) (by decide +kernel))))) (by decide +kernel)
theorem mn_13 : Cond.code yX3_drill cX3_drill 3 (some .int) ∈ ALL := ALL_i (List.mem_append_right _ (List.mem_append_right _ (List.mem_append_left _ (List.mem_of_getElem? (i := 91) (by decide +kernel))))) (by decide +kernel)
theorem mn_14 : Cond.methodLink RL 28 yX3_pass ∈ ALL := ALL_i (List.mem_append_right _ (List.mem_append_right _ (List.mem_append_left _ (List.mem_of_getElem? (i := 218) (by decide +kernel))))) (by decide +kernel)
theorem mn_15 : Cond.instanceMethod yX3_pass ∈ ALL := ALL_i (List.mem_append_right _ (List.mem_append_right _ (List.mem_append_left _ (List.mem_of_getElem? (i := 219) (by decide +kernel))))) (by decide +kernel)
theorem mn_16 : Cond.selects RX3 yX3_pass yX3_pass ∈ ALL := ALL_i (List.mem_append_right _ (List.mem_append_right _ (List.mem_append_left _ (List.mem_of_getElem? (i := 220) (by decide +kernel))))) (by decide +kernel)
theorem mn_17 : Cond.code yX3_pass cX3_pass 2 (some .int) ∈ ALL := ALL_i (List.mem_append_right _ (List.mem_append_right _ (List.mem_append_left _ (List.mem_of_getElem? (i := 221) (by decide +kernel))))) (by decide +kernel)
theorem mn_18 : Cond.methodLink RL 31 yX3_close ∈ ALL := ALL_i (List.mem_append_right _ (List.mem_append_right _ (List.mem_append_left _ (List.mem_of_getElem? (i := 232) (by decide +kernel))))) (by decide +kernel)
theorem mn_19 : Cond.instanceMethod yX3_close ∈ ALL := ALL_i (List.mem_append_right _ (List.mem_append_right _ (List.mem_append_left _ (List.mem_of_getElem? (i := 233) (by decide +kernel))))) (by decide +kernel)
theorem mn_20 : Cond.selects RX3 yX3_close yX3_close ∈ ALL := ALL_i (List.mem_append_right _ (List.mem_append_right _ (List.mem_append_left _ (List.mem_of_getElem? (i := 234) (by decide +kernel))))) (by decide +kernel)
theorem mn_21 : Cond.code yX3_close cX3_close 1 none ∈ ALL := ALL_i (List.mem_append_right _ (List.mem_append_right _ (List.mem_append_left _ (List.mem_of_getElem? (i := 235) (by decide +kernel))))) (by decide +kernel)
theorem mn_22 : Cond.methodLink RL 34 yX3_open ∈ ALL := ALL_i (List.mem_append_right _ (List.mem_append_right _ (List.mem_append_left _ (List.mem_of_getElem? (i := 239) (by decide +kernel))))) (by decide +kernel)
theorem mn_23 : Cond.instanceMethod yX3_open ∈ ALL := ALL_i (List.mem_append_right _ (List.mem_append_right _ (List.mem_append_right _ (List.mem_of_getElem? (i := 0) (by decide +kernel))))) (by decide +kernel)
theorem mn_24 : Cond.selects RX3 yX3_open yX3_open ∈ ALL := ALL_i (List.mem_append_right _ (List.mem_append_right _ (List.mem_append_right _ (List.mem_of_getElem? (i := 1) (by decide +kernel))))) (by decide +kernel)
theorem mn_25 : Cond.code yX3_open cX3_open 2 (some .int) ∈ ALL := ALL_i (List.mem_append_right _ (List.mem_append_right _ (List.mem_append_right _ (List.mem_of_getElem? (i := 2) (by decide +kernel))))) (by decide +kernel)
theorem mn_26 : Cond.methodLink RL 38 yX3_pump ∈ ALL := ALL_i (List.mem_append_right _ (List.mem_append_right _ (List.mem_append_right _ (List.mem_of_getElem? (i := 7) (by decide +kernel))))) (by decide +kernel)
theorem mn_27 : Cond.instanceMethod yX3_pump ∈ ALL := ALL_i (List.mem_append_right _ (List.mem_append_right _ (List.mem_append_right _ (List.mem_of_getElem? (i := 8) (by decide +kernel))))) (by decide +kernel)
theorem mn_28 : Cond.selects RX3 yX3_pump yX3_pump ∈ ALL := ALL_i (List.mem_append_right _ (List.mem_append_right _ (List.mem_append_right _ (List.mem_of_getElem? (i := 9) (by decide +kernel))))) (by decide +kernel)
theorem mn_29 : Cond.code yX3_pump cX3_pump 4 (some .int) ∈ ALL := ALL_i (List.mem_append_right _ (List.mem_append_right _ (List.mem_append_right _ (List.mem_of_getElem? (i := 10) (by decide +kernel))))) (by decide +kernel)
theorem mn_30 : Cond.methodLink RL 42 yX3_casing ∈ ALL := ALL_i (List.mem_append_right _ (List.mem_append_right _ (List.mem_append_right _ (List.mem_of_getElem? (i := 20) (by decide +kernel))))) (by decide +kernel)
theorem mn_31 : Cond.instanceMethod yX3_casing ∈ ALL := ALL_i (List.mem_append_right _ (List.mem_append_right _ (List.mem_append_right _ (List.mem_of_getElem? (i := 21) (by decide +kernel))))) (by decide +kernel)
theorem mn_32 : Cond.selects RX3 yX3_casing yX3_casing ∈ ALL := ALL_i (List.mem_append_right _ (List.mem_append_right _ (List.mem_append_right _ (List.mem_of_getElem? (i := 22) (by decide +kernel))))) (by decide +kernel)
theorem mn_33 : Cond.code yX3_casing cX3_casing 3 (some .int) ∈ ALL := ALL_i (List.mem_append_right _ (List.mem_append_right _ (List.mem_append_right _ (List.mem_of_getElem? (i := 23) (by decide +kernel))))) (by decide +kernel)
theorem mn_34 : Cond.methodLink RL 45 yX3_strength ∈ ALL := ALL_i (List.mem_append_right _ (List.mem_append_right _ (List.mem_append_right _ (List.mem_of_getElem? (i := 29) (by decide +kernel))))) (by decide +kernel)
theorem mn_35 : Cond.instanceMethod yX3_strength ∈ ALL := ALL_i (List.mem_append_right _ (List.mem_append_right _ (List.mem_append_right _ (List.mem_of_getElem? (i := 30) (by decide +kernel))))) (by decide +kernel)
theorem mn_36 : Cond.selects RX3 yX3_strength yX3_strength ∈ ALL := ALL_i (List.mem_append_right _ (List.mem_append_right _ (List.mem_append_right _ (List.mem_of_getElem? (i := 31) (by decide +kernel))))) (by decide +kernel)
theorem mn_37 : Cond.code yX3_strength cX3_strength 3 (some .int) ∈ ALL := ALL_i (List.mem_append_right _ (List.mem_append_right _ (List.mem_append_right _ (List.mem_of_getElem? (i := 32) (by decide +kernel))))) (by decide +kernel)
theorem mn_38 : Cond.methodLink RL 48 yX3_test ∈ ALL := ALL_i (List.mem_append_right _ (List.mem_append_left _ (List.mem_of_getElem? (i := 173) (by decide +kernel)))) (by decide +kernel)
theorem mn_39 : Cond.instanceMethod yX3_test ∈ ALL := ALL_i (List.mem_append_right _ (List.mem_append_left _ (List.mem_of_getElem? (i := 174) (by decide +kernel)))) (by decide +kernel)
theorem mn_40 : Cond.selects RX3 yX3_test yX3_test ∈ ALL := ALL_i (List.mem_append_right _ (List.mem_append_left _ (List.mem_of_getElem? (i := 175) (by decide +kernel)))) (by decide +kernel)
theorem mn_41 : Cond.code yX3_test cX3_test 4 (some .boolean) ∈ ALL := ALL_i (List.mem_append_right _ (List.mem_append_left _ (List.mem_of_getElem? (i := 176) (by decide +kernel)))) (by decide +kernel)
theorem mn_42 : Cond.methodLink RL 52 yX3_stop ∈ ALL := ALL_i (List.mem_append_right _ (List.mem_append_right _ (List.mem_append_right _ (List.mem_of_getElem? (i := 41) (by decide +kernel))))) (by decide +kernel)
theorem mn_43 : Cond.instanceMethod yX3_stop ∈ ALL := ALL_i (List.mem_append_right _ (List.mem_append_right _ (List.mem_append_right _ (List.mem_of_getElem? (i := 42) (by decide +kernel))))) (by decide +kernel)
theorem mn_44 : Cond.selects RX3 yX3_stop yX3_stop ∈ ALL := ALL_i (List.mem_append_right _ (List.mem_append_right _ (List.mem_append_right _ (List.mem_of_getElem? (i := 43) (by decide +kernel))))) (by decide +kernel)
theorem mn_45 : Cond.code yX3_stop cX3_stop 4 (some .int) ∈ ALL := ALL_i (List.mem_append_right _ (List.mem_append_right _ (List.mem_append_right _ (List.mem_of_getElem? (i := 44) (by decide +kernel))))) (by decide +kernel)
theorem mn_46 : Cond.methodLink RL 56 yX3_pressure ∈ ALL := ALL_i (List.mem_append_right _ (List.mem_append_right _ (List.mem_append_right _ (List.mem_of_getElem? (i := 49) (by decide +kernel))))) (by decide +kernel)
theorem mn_47 : Cond.instanceMethod yX3_pressure ∈ ALL := ALL_i (List.mem_append_right _ (List.mem_append_right _ (List.mem_append_right _ (List.mem_of_getElem? (i := 50) (by decide +kernel))))) (by decide +kernel)
theorem mn_48 : Cond.selects RX3 yX3_pressure yX3_pressure ∈ ALL := ALL_i (List.mem_append_right _ (List.mem_append_right _ (List.mem_append_right _ (List.mem_of_getElem? (i := 51) (by decide +kernel))))) (by decide +kernel)
theorem mn_49 : Cond.code yX3_pressure cX3_pressure 2 (some .int) ∈ ALL := ALL_i (List.mem_append_right _ (List.mem_append_right _ (List.mem_append_right _ (List.mem_of_getElem? (i := 52) (by decide +kernel))))) (by decide +kernel)
theorem mn_50 : Cond.methodLink RL 59 yX3_of ∈ ALL := ALL_i (List.mem_append_right _ (List.mem_append_right _ (List.mem_append_right _ (List.mem_of_getElem? (i := 61) (by decide +kernel))))) (by decide +kernel)
theorem mn_51 : Cond.instanceMethod yX3_of ∈ ALL := ALL_i (List.mem_append_right _ (List.mem_append_right _ (List.mem_append_right _ (List.mem_of_getElem? (i := 62) (by decide +kernel))))) (by decide +kernel)
theorem mn_52 : Cond.selects RX3 yX3_of yX3_of ∈ ALL := ALL_i (List.mem_append_right _ (List.mem_append_right _ (List.mem_append_right _ (List.mem_of_getElem? (i := 63) (by decide +kernel))))) (by decide +kernel)
theorem mn_53 : Cond.code yX3_of cX3_of 2 (some .long) ∈ ALL := ALL_i (List.mem_append_right _ (List.mem_append_right _ (List.mem_append_right _ (List.mem_of_getElem? (i := 64) (by decide +kernel))))) (by decide +kernel)
theorem mn_54 : Cond.constantLong RL 63 (-9000000000000000) ∈ ALL := ALL_i (List.mem_append_right _ (List.mem_append_right _ (List.mem_append_right _ (List.mem_of_getElem? (i := 66) (by decide +kernel))))) (by decide +kernel)
theorem mn_55 : Cond.methodLink RL 65 yX3_ofTest ∈ ALL := ALL_i (List.mem_append_right _ (List.mem_append_right _ (List.mem_append_right _ (List.mem_of_getElem? (i := 72) (by decide +kernel))))) (by decide +kernel)
theorem mn_56 : Cond.instanceMethod yX3_ofTest ∈ ALL := ALL_i (List.mem_append_right _ (List.mem_append_right _ (List.mem_append_right _ (List.mem_of_getElem? (i := 73) (by decide +kernel))))) (by decide +kernel)
theorem mn_57 : Cond.selects RX3 yX3_ofTest yX3_ofTest ∈ ALL := ALL_i (List.mem_append_right _ (List.mem_append_right _ (List.mem_append_right _ (List.mem_of_getElem? (i := 74) (by decide +kernel))))) (by decide +kernel)
theorem mn_58 : Cond.code yX3_ofTest cX3_ofTest 3 (some .int) ∈ ALL := ALL_i (List.mem_append_right _ (List.mem_append_right _ (List.mem_append_right _ (List.mem_of_getElem? (i := 75) (by decide +kernel))))) (by decide +kernel)
theorem mn_59 : Cond.methodLink RL 68 yX3_killWeight ∈ ALL := ALL_i (List.mem_append_right _ (List.mem_append_right _ (List.mem_append_right _ (List.mem_of_getElem? (i := 80) (by decide +kernel))))) (by decide +kernel)
theorem mn_60 : Cond.instanceMethod yX3_killWeight ∈ ALL := ALL_i (List.mem_append_right _ (List.mem_append_right _ (List.mem_append_right _ (List.mem_of_getElem? (i := 81) (by decide +kernel))))) (by decide +kernel)
theorem mn_61 : Cond.selects RX3 yX3_killWeight yX3_killWeight ∈ ALL := ALL_i (List.mem_append_right _ (List.mem_append_right _ (List.mem_append_right _ (List.mem_of_getElem? (i := 82) (by decide +kernel))))) (by decide +kernel)
theorem mn_62 : Cond.code yX3_killWeight cX3_killWeight 2 (some .int) ∈ ALL := ALL_i (List.mem_append_right _ (List.mem_append_right _ (List.mem_append_right _ (List.mem_of_getElem? (i := 83) (by decide +kernel))))) (by decide +kernel)
theorem mn_63 : Cond.methodLink RL 71 yX3_window ∈ ALL := ALL_i (List.mem_append_right _ (List.mem_append_right _ (List.mem_append_right _ (List.mem_of_getElem? (i := 88) (by decide +kernel))))) (by decide +kernel)
theorem mn_64 : Cond.instanceMethod yX3_window ∈ ALL := ALL_i (List.mem_append_right _ (List.mem_append_right _ (List.mem_append_right _ (List.mem_of_getElem? (i := 89) (by decide +kernel))))) (by decide +kernel)
theorem mn_65 : Cond.selects RX3 yX3_window yX3_window ∈ ALL := ALL_i (List.mem_append_right _ (List.mem_append_right _ (List.mem_append_right _ (List.mem_of_getElem? (i := 90) (by decide +kernel))))) (by decide +kernel)
theorem mn_66 : Cond.code yX3_window cX3_window 6 (some .int) ∈ ALL := ALL_i (List.mem_append_right _ (List.mem_append_right _ (List.mem_append_right _ (List.mem_of_getElem? (i := 91) (by decide +kernel))))) (by decide +kernel)
theorem mn_67 : Cond.methodLink RL 75 yX3_casings ∈ ALL := ALL_i (List.mem_append_right _ (List.mem_append_right _ (List.mem_append_right _ (List.mem_of_getElem? (i := 107) (by decide +kernel))))) (by decide +kernel)
theorem mn_68 : Cond.instanceMethod yX3_casings ∈ ALL := ALL_i (List.mem_append_right _ (List.mem_append_right _ (List.mem_append_right _ (List.mem_of_getElem? (i := 108) (by decide +kernel))))) (by decide +kernel)
theorem mn_69 : Cond.selects RX3 yX3_casings yX3_casings ∈ ALL := ALL_i (List.mem_append_right _ (List.mem_append_right _ (List.mem_append_right _ (List.mem_of_getElem? (i := 109) (by decide +kernel))))) (by decide +kernel)
theorem mn_70 : Cond.code yX3_casings cX3_casings 2 (some .int) ∈ ALL := ALL_i (List.mem_append_right _ (List.mem_append_right _ (List.mem_append_right _ (List.mem_of_getElem? (i := 110) (by decide +kernel))))) (by decide +kernel)
theorem mn_71 : Cond.methodLink RL 78 yX3_casingsAnew ∈ ALL := ALL_i (List.mem_append_right _ (List.mem_append_right _ (List.mem_append_right _ (List.mem_of_getElem? (i := 119) (by decide +kernel))))) (by decide +kernel)
theorem mn_72 : Cond.instanceMethod yX3_casingsAnew ∈ ALL := ALL_i (List.mem_append_right _ (List.mem_append_right _ (List.mem_append_right _ (List.mem_of_getElem? (i := 120) (by decide +kernel))))) (by decide +kernel)
theorem mn_73 : Cond.selects RX3 yX3_casingsAnew yX3_casingsAnew ∈ ALL := ALL_i (List.mem_append_right _ (List.mem_append_right _ (List.mem_append_right _ (List.mem_of_getElem? (i := 121) (by decide +kernel))))) (by decide +kernel)
theorem mn_74 : Cond.code yX3_casingsAnew cX3_casingsAnew 2 (some .int) ∈ ALL := ALL_i (List.mem_append_right _ (List.mem_append_right _ (List.mem_append_right _ (List.mem_of_getElem? (i := 122) (by decide +kernel))))) (by decide +kernel)
theorem mn_75 : Cond.constantFloat RL 81 (1148846080) ∈ ALL := ALL_i (List.mem_append_right _ (List.mem_append_right _ (List.mem_append_right _ (List.mem_of_getElem? (i := 134) (by decide +kernel))))) (by decide +kernel)
theorem mn_76 : Cond.methodLink RL 82 yX3_equivalent ∈ ALL := ALL_i (List.mem_append_right _ (List.mem_append_right _ (List.mem_append_right _ (List.mem_of_getElem? (i := 135) (by decide +kernel))))) (by decide +kernel)
theorem mn_77 : Cond.instanceMethod yX3_equivalent ∈ ALL := ALL_i (List.mem_append_right _ (List.mem_append_right _ (List.mem_append_right _ (List.mem_of_getElem? (i := 136) (by decide +kernel))))) (by decide +kernel)
theorem mn_78 : Cond.selects RX3 yX3_equivalent yX3_equivalent ∈ ALL := ALL_i (List.mem_append_right _ (List.mem_append_right _ (List.mem_append_right _ (List.mem_of_getElem? (i := 137) (by decide +kernel))))) (by decide +kernel)
theorem mn_79 : Cond.code yX3_equivalent cX3_equivalent 2 (some .float) ∈ ALL := ALL_i (List.mem_append_right _ (List.mem_append_right _ (List.mem_append_right _ (List.mem_of_getElem? (i := 138) (by decide +kernel))))) (by decide +kernel)
theorem mn_80 : Cond.methodLink RL 86 yX3_ahead ∈ ALL := ALL_i (List.mem_append_right _ (List.mem_append_right _ (List.mem_append_right _ (List.mem_of_getElem? (i := 143) (by decide +kernel))))) (by decide +kernel)
theorem mn_81 : Cond.instanceMethod yX3_ahead ∈ ALL := ALL_i (List.mem_append_right _ (List.mem_append_right _ (List.mem_append_right _ (List.mem_of_getElem? (i := 144) (by decide +kernel))))) (by decide +kernel)
theorem mn_82 : Cond.selects RX3 yX3_ahead yX3_ahead ∈ ALL := ALL_i (List.mem_append_right _ (List.mem_append_right _ (List.mem_append_right _ (List.mem_of_getElem? (i := 145) (by decide +kernel))))) (by decide +kernel)
theorem mn_83 : Cond.code yX3_ahead cX3_ahead 2 (some .int) ∈ ALL := ALL_i (List.mem_append_right _ (List.mem_append_right _ (List.mem_append_right _ (List.mem_of_getElem? (i := 146) (by decide +kernel))))) (by decide +kernel)
theorem lk_L_8 : LKV RL 8 RX3 yX3_layer cX3_layer 6 none 5 := ⟨mn_1, mn_2, mn_3, ⟨mm_6, mn_4, by decide +kernel, by decide +kernel, by decide +kernel⟩⟩
theorem lk_L_21 : LKV RL 21 RX3 yX3_mud cX3_mud 3 (some .int) 1 := ⟨mn_6, mn_7, mn_8, ⟨mm_6, mn_9, by decide +kernel, by decide +kernel, by decide +kernel⟩⟩
theorem lk_L_25 : LKV RL 25 RX3 yX3_drill cX3_drill 3 (some .int) 1 := ⟨mn_10, mn_11, mn_12, ⟨mm_6, mn_13, by decide +kernel, by decide +kernel, by decide +kernel⟩⟩
theorem lk_L_28 : LKV RL 28 RX3 yX3_pass cX3_pass 2 (some .int) 1 := ⟨mn_14, mn_15, mn_16, ⟨mm_6, mn_17, by decide +kernel, by decide +kernel, by decide +kernel⟩⟩
theorem lk_L_31 : LKV RL 31 RX3 yX3_close cX3_close 1 none 0 := ⟨mn_18, mn_19, mn_20, ⟨mm_6, mn_21, by decide +kernel, by decide +kernel, by decide +kernel⟩⟩
theorem lk_L_34 : LKV RL 34 RX3 yX3_open cX3_open 2 (some .int) 0 := ⟨mn_22, mn_23, mn_24, ⟨mm_6, mn_25, by decide +kernel, by decide +kernel, by decide +kernel⟩⟩
theorem lk_L_38 : LKV RL 38 RX3 yX3_pump cX3_pump 4 (some .int) 2 := ⟨mn_26, mn_27, mn_28, ⟨mm_6, mn_29, by decide +kernel, by decide +kernel, by decide +kernel⟩⟩
theorem lk_L_42 : LKV RL 42 RX3 yX3_casing cX3_casing 3 (some .int) 1 := ⟨mn_30, mn_31, mn_32, ⟨mm_6, mn_33, by decide +kernel, by decide +kernel, by decide +kernel⟩⟩
theorem lk_L_45 : LKV RL 45 RX3 yX3_strength cX3_strength 3 (some .int) 1 := ⟨mn_34, mn_35, mn_36, ⟨mm_6, mn_37, by decide +kernel, by decide +kernel, by decide +kernel⟩⟩
theorem lk_L_48 : LKV RL 48 RX3 yX3_test cX3_test 4 (some .boolean) 2 := ⟨mn_38, mn_39, mn_40, ⟨mm_6, mn_41, by decide +kernel, by decide +kernel, by decide +kernel⟩⟩
theorem lk_L_52 : LKV RL 52 RX3 yX3_stop cX3_stop 4 (some .int) 2 := ⟨mn_42, mn_43, mn_44, ⟨mm_6, mn_45, by decide +kernel, by decide +kernel, by decide +kernel⟩⟩
theorem lk_L_56 : LKV RL 56 RX3 yX3_pressure cX3_pressure 2 (some .int) 1 := ⟨mn_46, mn_47, mn_48, ⟨mm_6, mn_49, by decide +kernel, by decide +kernel, by decide +kernel⟩⟩
theorem lk_L_59 : LKV RL 59 RX3 yX3_of cX3_of 2 (some .long) 1 := ⟨mn_50, mn_51, mn_52, ⟨mm_6, mn_53, by decide +kernel, by decide +kernel, by decide +kernel⟩⟩
theorem lk_L_65 : LKV RL 65 RX3 yX3_ofTest cX3_ofTest 3 (some .int) 2 := ⟨mn_55, mn_56, mn_57, ⟨mm_6, mn_58, by decide +kernel, by decide +kernel, by decide +kernel⟩⟩
theorem lk_L_68 : LKV RL 68 RX3 yX3_killWeight cX3_killWeight 2 (some .int) 0 := ⟨mn_59, mn_60, mn_61, ⟨mm_6, mn_62, by decide +kernel, by decide +kernel, by decide +kernel⟩⟩
theorem lk_L_71 : LKV RL 71 RX3 yX3_window cX3_window 6 (some .int) 3 := ⟨mn_63, mn_64, mn_65, ⟨mm_6, mn_66, by decide +kernel, by decide +kernel, by decide +kernel⟩⟩
theorem lk_L_75 : LKV RL 75 RX3 yX3_casings cX3_casings 2 (some .int) 1 := ⟨mn_67, mn_68, mn_69, ⟨mm_6, mn_70, by decide +kernel, by decide +kernel, by decide +kernel⟩⟩
theorem lk_L_78 : LKV RL 78 RX3 yX3_casingsAnew cX3_casingsAnew 2 (some .int) 1 := ⟨mn_71, mn_72, mn_73, ⟨mm_6, mn_74, by decide +kernel, by decide +kernel, by decide +kernel⟩⟩
theorem lk_L_82 : LKV RL 82 RX3 yX3_equivalent cX3_equivalent 2 (some .float) 0 := ⟨mn_76, mn_77, mn_78, ⟨mm_6, mn_79, by decide +kernel, by decide +kernel, by decide +kernel⟩⟩
theorem lk_L_86 : LKV RL 86 RX3 yX3_ahead cX3_ahead 2 (some .int) 1 := ⟨mn_80, mn_81, mn_82, ⟨mm_6, mn_83, by decide +kernel, by decide +kernel, by decide +kernel⟩⟩
/-! L_low -/
def f_L_low (p0 : Int32) (p1 : Int32) : Int32 :=
  (p0 &&& (2147483647 : Int32)) - (p0 &&& (2147483647 : Int32)) / p1 * p1

def ok_L_low (p0 : Int32) (p1 : Int32) : Prop :=
  (¬ p1 = 0) ∧ True

abbrev RM_L_low : Room := { frames := 0, cells := 0, slots := 0, locals := 0 }
set_option maxRecDepth 100000 in
set_option maxHeartbeats 4000000 in
theorem c_L_low (l : Launch) (D : va_G) (q : Nat → ClassId) (sz : Nat) (p0 : Int32) (p1 : Int32) (hok : ok_L_low p0 p1) : Met l yL_low (Cond.code yL_low cL_low 2 (some .int) :: ALL) RM_L_low (PC D q [.int p0, .int p1] ([]) sz) (va_Qi (fun (rv : Int32) (_ : Unit) => f_L_low p0 p1 = rv) (fun _ _ => True) (fun _ => False)) 0 0 (fun _ => False) := by
  refine en_iR (by decide +kernel) (Nat.le_of_ble_eq_true rfl) ?_
  intro p e s m args below meth c Q A H locs ls fx hD0 hP hS hl hret
  have hx := fx.1
  have hb := fx.2.1
  have hl : lv_has ls 2 [(0, .int p0), (1, .int p1)] := hl
  have hD : va_D _ ([] : va_W) := hD0
  have ht : f_L_low p0 p1 = f_L_low p0 p1 := rfl
  simp only [ok_L_low] at hok
  refine lv_iload_n hx hb dL_low_0 rfl (lv_at hl 0 rfl) ?_
  refine lv_ldc hx hb fx.2.2.2.1 (fx.2.2.2.2.1 _ mn_0) dL_low_1 ?_
  refine lv_iand hx hb dL_low_3 ?_
  refine lv_iload_n hx hb dL_low_4 rfl (lv_at hl 1 rfl) ?_
  obtain ⟨hn1, hok⟩ := hok
  refine lv_irem hx hb dL_low_5 hn1 ?_
  exact hret ((p0 &&& (2147483647 : Int32)) - (p0 &&& (2147483647 : Int32)) / p1 * p1) _ _ _ _ dL_low_6 (ht.trans (by simp only [f_L_low])) hS

/-! L_cell -/
def f_L_cell (na : Nat) (f : (Nat → Int32)) (p0 : Int32) : Int32 :=
  if (Int32.ofNat na) ≤ p0 then (((7919 : Int32) * (p0 + (2917 : Int32))) * (p0 + (619 : Int32))) else (f p0.toNatClampNeg)

def ok_L_cell (na : Nat) (p0 : Int32) : Prop :=
  ((Int32.ofNat na) ≤ p0 → True) ∧ (¬ (Int32.ofNat na) ≤ p0 → ((vp_in p0 na) ∧ True))

abbrev RM_L_cell : Room := { frames := 0, cells := 0, slots := 0, locals := 0 }
set_option maxRecDepth 100000 in
set_option maxHeartbeats 4000000 in
theorem c_L_cell (l : Launch) (D : va_G) (q : Nat → ClassId) (sz : Nat) (a : Nat) (na : Nat) (hn : na < 2147483648) (f : (Nat → Int32)) (p0 : Int32) (hok : ok_L_cell na p0) : Met l yL_cell (Cond.code yL_cell cL_cell 2 (some .int) :: ALL) RM_L_cell (PC D q [.ref a, .int p0] (cArr a na q f) sz) (va_Qi (fun (rv : Int32) (_ : Unit) => f_L_cell na f p0 = rv) (fun _ _ => True) (fun _ => False)) 0 0 (fun _ => False) := by
  refine en_iR (by decide +kernel) (Nat.le_of_ble_eq_true rfl) ?_
  intro p e s m args below meth c Q A H locs ls fx hD0 hP hS hl hret
  have hx := fx.1
  have hb := fx.2.1
  have hl : lv_has ls 2 [(0, .ref a), (1, .int p0)] := hl
  have hD : ∀ (f9 : (Nat → Int32)), va_D _ (cArr a na q f9) := fun _ => D_same ((fst_Arr _ _ _ _).trans (fst_Arr _ _ _ _).symm) hD0
  have ht : f_L_cell na f p0 = f_L_cell na f p0 := rfl
  simp only [ok_L_cell] at hok
  refine lv_iload_n hx hb dL_cell_0 rfl (lv_at hl 1 rfl) ?_
  refine lv_aload_n hx hb dL_cell_1 rfl (lv_at hl 0 rfl) ?_
  refine va_alen hx hb fx.2.2.2.2.2.1 hP 0 0 rfl (ty := .int) rfl (v := Int32.ofNat na) rfl dL_cell_2 ?_
  refine lv_icmp_ge (tgt := 12) hx hb dL_cell_3 (by decide) (fun c1 => ?_) (fun c1 => ?_)
  · have hok := hok.1 c1
    refine lv_sipush (v := 7919) hx hb dL_cell_12 (by decide) ?_
    refine lv_iload_n hx hb dL_cell_15 rfl (lv_at hl 1 rfl) ?_
    refine lv_sipush (v := 2917) hx hb dL_cell_16 (by decide) ?_
    refine lv_iadd hx hb dL_cell_19 ?_
    refine lv_imul hx hb dL_cell_20 ?_
    refine lv_iload_n hx hb dL_cell_21 rfl (lv_at hl 1 rfl) ?_
    refine lv_sipush (v := 619) hx hb dL_cell_22 (by decide) ?_
    refine lv_iadd hx hb dL_cell_25 ?_
    refine lv_imul hx hb dL_cell_26 ?_
    exact hret (((7919 : Int32) * (p0 + (2917 : Int32))) * (p0 + (619 : Int32))) _ _ _ _ dL_cell_27 (ht.trans (by simp only [f_L_cell, if_pos c1])) hS
  · have hok := hok.2 c1
    refine lv_aload_n hx hb dL_cell_6 rfl (lv_at hl 0 rfl) ?_
    refine lv_iload_n hx hb dL_cell_7 rfl (lv_at hl 1 rfl) ?_
    obtain ⟨hi2, hok⟩ := hok
    refine va_iald hx hb fx.2.2.2.2.2.1 hP 0 0 (f := f) rfl rfl hi2 dL_cell_8 ?_
    refine lv_goto (tgt := 27) hx hb dL_cell_9 (by decide) ?_
    exact hret (f p0.toNatClampNeg) _ _ _ _ dL_cell_27 (ht.trans (by simp only [f_L_cell, if_neg c1])) hS

/-! L_layer -/
def f_L_layer (w : WS) (r : RS) (p0 : Int32) (p1 : Int32) (p2 : Int32) (p3 : Int32) (p4 : Int32) : Nat × Int32 × RS :=
  if (f_X3_layer w r p0 p1 p2 p3 p4).1 = 0 then (0, (0 : Int32), ((f_X3_layer w r p0 p1 p2 p3 p4).2)) else (if (f_X3_layer w r p0 p1 p2 p3 p4).1 = 1 then ((0 + 1), (-2000000000 : Int32), r) else (if (f_X3_layer w r p0 p1 p2 p3 p4).1 = 2 then ((0 + 1), (-2000000000 : Int32), r) else ((0 + 1), (-2000000000 : Int32), r)))

abbrev RM_L_layer : Room := { frames := 7, cells := 1, slots := 6, locals := 115 }
set_option maxRecDepth 100000 in
set_option maxHeartbeats 4000000 in
theorem c_L_layer (l : Launch) (D : va_G) (q : Nat → ClassId) (sz : Nat) (h : Nat) (aw : Nat) (av : Nat) (kr : Nat → Nat) (kt : Nat → Nat) (x : XS) (w : WS) (v : WS) (r : RS) (t : TS) (p0 : Int32) (p1 : Int32) (p2 : Int32) (p3 : Int32) (p4 : Int32) (hstk : l.stackTraces = false) : Met l yL_layer (Cond.codeWith yL_layer cL_layer 7 (some .int) [(0, 12, 13, 14), (0, 12, 18, 17), (0, 12, 23, 19)] :: ALL) RM_L_layer (PX D q [.ref h, .int p0, .int p1, .int p2, .int p3, .int p4] (cKick h aw av kr kt q x w v r t) sz) (va_Qi (fun (rv : Int32) (u : Nat × (RS)) => f_L_layer w r p0 p1 p2 p3 p4 = (u.1, rv, u.2)) (fun u t9 => va_P D vwCl (cKick h aw av kr kt q x w v u.2 t) t9.heap ∧ sz + u.1 ≤ t9.heap.size) (va_A (cKick h aw av kr kt q x w v r t) sz)) 1 6 (va_A (cKick h aw av kr kt q x w v r t) sz) := by
  refine en_hi (post := fun (rv : Int32) (u : Nat × (RS)) => f_L_layer w r p0 p1 p2 p3 p4 = (u.1, rv, u.2)) (C := fun (u : RS) => cKick h aw av kr kt q x w v u t) rfl (by decide +kernel) (Nat.le_of_ble_eq_true rfl) ?_
  intro p e s m args below meth c Q A H locs ls fx hSX hSZ0 htab hD0 hA hP hS hl hret
  have hx := fx.1
  have hb := fx.2.1
  have hg : s.heap.size + 0 ≤ H.size := hS.1
  have hl : lv_has ls 7 [(0, .ref h), (1, .int p0), (2, .int p1), (3, .int p2), (4, .int p3), (5, .int p4)] := hl
  have hD : ∀ (x9 : XS) (w9 : WS) (v9 : WS) (r9 : RS) (t9 : TS), va_D _ (cKick h aw av kr kt q x9 w9 v9 r9 t9) := fun _ _ _ _ _ => D_same ((fst_Kick _ _ _ _ _ _ _ _ _ _ _).trans (fst_Kick _ _ _ _ _ _ _ _ _ _ _).symm) hD0
  have ht : f_L_layer w r p0 p1 p2 p3 p4 = f_L_layer w r p0 p1 p2 p3 p4 := rfl
  refine lv_aload_n hx hb dL_layer_0 rfl (lv_at hl 0 rfl) ?_
  refine lv_iload_n hx hb dL_layer_1 rfl (lv_at hl 1 rfl) ?_
  refine lv_iload_n hx hb dL_layer_2 rfl (lv_at hl 2 rfl) ?_
  refine lv_iload_n hx hb dL_layer_3 rfl (lv_at hl 3 rfl) ?_
  refine lv_iload hx hb dL_layer_4 (lv_at hl 4 rfl) ?_
  refine lv_iload hx hb dL_layer_6 (lv_at hl 5 rfl) ?_
  refine kXg_v (xrun fx hSX (SZ.kept hSZ0 hS.2.1) (As := [.int p0, .int p1, .int p2, .int p3, .int p4]) (rest := []) (c_X3_layer l D q H.size h aw av kr kt x w v r t p0 p1 p2 p3 p4 hstk) lk_L_8 ⟨Nat.le_of_ble_eq_true rfl, Nat.le_of_ble_eq_true rfl⟩ ⟨rfl, rfl⟩ hP (hD _ _ _ _ _) hS hA [0, 1, 2, 3, 4, 5, 6, 7, 8, 9, 10, 11, 12, 13] rfl rfl (ci := 3) rfl rfl rfl hl.1 rfl (Nat.le_of_ble_eq_true rfl) dL_layer_8 ⟨Nat.le_of_ble_eq_true rfl, Nat.le_of_ble_eq_true rfl⟩) hP (hD _ _ _ _ _) hS hA hg [0, 1, 2, 3, 4, 5, 6, 7, 8, 9, 10, 11, 12, 13] rfl (fun _ => rfl) (fun k ce q9 H locs hp hP hS hg hce hcv hcl => ?_) (fun u1 H locs hw2 hP hS hg => ?_)
  · have hP : va_P D vwCl (cKick h aw av kr kt q x w v r t) H := hP
    obtain ⟨hk4, hor⟩ := hp
    rcases hor with rfl | rfl | rfl
    · have n3 : ¬ (f_X3_layer w r p0 p1 p2 p3 p4).1 = 0 := by rw [hk4]; decide
      refine catchK (k := 1) fx hSX htab [] [(0, 12, 18, 17), (0, 12, 23, 19)] rfl (fun z hz => by simp at hz) (Or.inl rfl) rfl ⟨by decide, by decide⟩ hce hcv hcl ?_
      refine lv_astore (lv' := [(6, .ref q9), (0, .ref h), (1, .int p0), (2, .int p1), (3, .int p2), (4, .int p3), (5, .int p4)]) hx hb dL_layer_13 hl (by decide) rfl (fun ls hl => ?_)
      refine lv_ldc hx hb fx.2.2.2.1 (fx.2.2.2.2.1 _ mn_5) dL_layer_15 ?_
      exact hret (-2000000000 : Int32) ((0 + 1), r) _ _ _ _ dL_layer_17 (ht.trans (by simp only [f_L_layer, if_neg n3, if_pos hk4])) hP hS hg
    · have n3 : ¬ (f_X3_layer w r p0 p1 p2 p3 p4).1 = 0 := by rw [hk4]; decide
      have n3_1 : ¬ (f_X3_layer w r p0 p1 p2 p3 p4).1 = 1 := by rw [hk4]; decide
      refine catchK (k := 2) fx hSX htab [(0, 12, 13, 14)] [(0, 12, 23, 19)] rfl (fun z hz => by simp only [List.mem_cons, List.not_mem_nil, or_false] at hz; rcases hz with rfl; exact ⟨1, rfl, by decide, by decide⟩) (Or.inr (Or.inl rfl)) rfl ⟨by decide, by decide⟩ hce hcv hcl ?_
      refine lv_astore (lv' := [(6, .ref q9), (0, .ref h), (1, .int p0), (2, .int p1), (3, .int p2), (4, .int p3), (5, .int p4)]) hx hb dL_layer_18 hl (by decide) rfl (fun ls hl => ?_)
      refine lv_ldc hx hb fx.2.2.2.1 (fx.2.2.2.2.1 _ mn_5) dL_layer_20 ?_
      exact hret (-2000000000 : Int32) ((0 + 1), r) _ _ _ _ dL_layer_22 (ht.trans (by simp only [f_L_layer, if_neg n3, if_neg n3_1, if_pos hk4])) hP hS hg
    · have n3 : ¬ (f_X3_layer w r p0 p1 p2 p3 p4).1 = 0 := by rw [hk4]; decide
      have n3_1 : ¬ (f_X3_layer w r p0 p1 p2 p3 p4).1 = 1 := by rw [hk4]; decide
      have n3_2 : ¬ (f_X3_layer w r p0 p1 p2 p3 p4).1 = 2 := by rw [hk4]; decide
      refine catchK (k := 3) fx hSX htab [(0, 12, 13, 14), (0, 12, 18, 17)] [] rfl (fun z hz => by simp only [List.mem_cons, List.not_mem_nil, or_false] at hz; rcases hz with rfl | rfl; exact ⟨1, rfl, by decide, by decide⟩; exact ⟨2, rfl, by decide, by decide⟩) (Or.inr (Or.inr rfl)) rfl ⟨by decide, by decide⟩ hce hcv hcl ?_
      refine lv_astore (lv' := [(6, .ref q9), (0, .ref h), (1, .int p0), (2, .int p1), (3, .int p2), (4, .int p3), (5, .int p4)]) hx hb dL_layer_23 hl (by decide) rfl (fun ls hl => ?_)
      refine lv_ldc hx hb fx.2.2.2.1 (fx.2.2.2.2.1 _ mn_5) dL_layer_25 ?_
      exact hret (-2000000000 : Int32) ((0 + 1), r) _ _ _ _ dL_layer_27 (ht.trans (by simp only [f_L_layer, if_neg n3, if_neg n3_1, if_neg n3_2])) hP hS hg
  · have hP : va_P D vwCl (cKick h aw av kr kt q x w v u1 t) H := hP
    refine lv_iconst (v := 0) hx hb dL_layer_11 (by decide) ?_
    exact hret (0 : Int32) (0, u1) _ _ _ _ dL_layer_12 (ht.trans (by first | (simp only [f_L_layer, eq_self, if_true, hw2]; done) | (simp only [f_L_layer, hw2]; simp only [eq_self, if_true]))) hP hS hg

/-! L_mud -/
def f_L_mud (x : XS) (w : WS) (p0 : Int32) : Nat × Int32 × XS × WS :=
  if (f_X3_mud x w p0).1 = 0 then (0, (f_X3_mud x w p0).2.1, ((f_X3_mud x w p0).2.2).1, ((f_X3_mud x w p0).2.2).2) else (if (f_X3_mud x w p0).1 = 2 then ((0 + 1), (-2000000000 : Int32), x, w) else ((0 + 1), (-2000000000 : Int32), x, w))

abbrev RM_L_mud : Room := { frames := 7, cells := 1, slots := 6, locals := 112 }
set_option maxRecDepth 100000 in
set_option maxHeartbeats 4000000 in
theorem c_L_mud (l : Launch) (D : va_G) (q : Nat → ClassId) (sz : Nat) (h : Nat) (aw : Nat) (av : Nat) (kr : Nat → Nat) (kt : Nat → Nat) (x : XS) (w : WS) (v : WS) (r : RS) (t : TS) (p0 : Int32) (hstk : l.stackTraces = false) : Met l yL_mud (Cond.codeWith yL_mud cL_mud 3 (some .int) [(0, 5, 6, 17), (0, 5, 10, 19)] :: ALL) RM_L_mud (PX D q [.ref h, .int p0] (cKick h aw av kr kt q x w v r t) sz) (va_Qi (fun (rv : Int32) (u : Nat × (XS × WS)) => f_L_mud x w p0 = (u.1, rv, u.2)) (fun u t9 => va_P D vwCl (cKick h aw av kr kt q u.2.1 u.2.2 v r t) t9.heap ∧ sz + u.1 ≤ t9.heap.size) (va_A (cKick h aw av kr kt q x w v r t) sz)) 1 6 (va_A (cKick h aw av kr kt q x w v r t) sz) := by
  refine en_hi (post := fun (rv : Int32) (u : Nat × (XS × WS)) => f_L_mud x w p0 = (u.1, rv, u.2)) (C := fun (u : XS × WS) => cKick h aw av kr kt q u.1 u.2 v r t) rfl (by decide +kernel) (Nat.le_of_ble_eq_true rfl) ?_
  intro p e s m args below meth c Q A H locs ls fx hSX hSZ0 htab hD0 hA hP hS hl hret
  have hx := fx.1
  have hb := fx.2.1
  have hg : s.heap.size + 0 ≤ H.size := hS.1
  have hl : lv_has ls 3 [(0, .ref h), (1, .int p0)] := hl
  have hD : ∀ (x9 : XS) (w9 : WS) (v9 : WS) (r9 : RS) (t9 : TS), va_D _ (cKick h aw av kr kt q x9 w9 v9 r9 t9) := fun _ _ _ _ _ => D_same ((fst_Kick _ _ _ _ _ _ _ _ _ _ _).trans (fst_Kick _ _ _ _ _ _ _ _ _ _ _).symm) hD0
  have ht : f_L_mud x w p0 = f_L_mud x w p0 := rfl
  refine lv_aload_n hx hb dL_mud_0 rfl (lv_at hl 0 rfl) ?_
  refine lv_iload_n hx hb dL_mud_1 rfl (lv_at hl 1 rfl) ?_
  refine kXg_i (xrun fx hSX (SZ.kept hSZ0 hS.2.1) (As := [.int p0]) (rest := []) (c_X3_mud l D q H.size h aw av kr kt x w v r t p0 hstk) lk_L_21 ⟨Nat.le_of_ble_eq_true rfl, Nat.le_of_ble_eq_true rfl⟩ ⟨rfl, rfl⟩ hP (hD _ _ _ _ _) hS hA [0, 1, 2, 3, 4, 5, 6, 7, 8, 9, 10, 11, 12, 13] rfl rfl (ci := 3) rfl rfl rfl hl.1 rfl (Nat.le_of_ble_eq_true rfl) dL_mud_2 ⟨Nat.le_of_ble_eq_true rfl, Nat.le_of_ble_eq_true rfl⟩) hP (hD _ _ _ _ _) hS hA hg [0, 1, 2, 3, 4, 5, 6, 7, 8, 9, 10, 11, 12, 13] rfl (fun _ => rfl) (fun k ce q9 H locs hp hP hS hg hce hcv hcl => ?_) (fun r1 u2 H locs hw3 hP hS hg => ?_)
  · have hP : va_P D vwCl (cKick h aw av kr kt q x w v r t) H := hP
    obtain ⟨hk5, hor⟩ := hp
    rcases hor with rfl | rfl
    · have n4 : ¬ (f_X3_mud x w p0).1 = 0 := by rw [hk5]; decide
      refine catchK (k := 2) fx hSX htab [] [(0, 5, 10, 19)] rfl (fun z hz => by simp at hz) (Or.inr (Or.inl rfl)) rfl ⟨by decide, by decide⟩ hce hcv hcl ?_
      refine lv_astore_n (lv' := [(2, .ref q9), (0, .ref h), (1, .int p0)]) hx hb dL_mud_6 rfl hl (by decide) rfl (fun ls hl => ?_)
      refine lv_ldc hx hb fx.2.2.2.1 (fx.2.2.2.2.1 _ mn_5) dL_mud_7 ?_
      exact hret (-2000000000 : Int32) ((0 + 1), (x, w)) _ _ _ _ dL_mud_9 (ht.trans (by simp only [f_L_mud, if_neg n4, if_pos hk5])) hP hS hg
    · have n4 : ¬ (f_X3_mud x w p0).1 = 0 := by rw [hk5]; decide
      have n4_2 : ¬ (f_X3_mud x w p0).1 = 2 := by rw [hk5]; decide
      refine catchK (k := 3) fx hSX htab [(0, 5, 6, 17)] [] rfl (fun z hz => by simp only [List.mem_cons, List.not_mem_nil, or_false] at hz; rcases hz with rfl; exact ⟨2, rfl, by decide, by decide⟩) (Or.inr (Or.inr rfl)) rfl ⟨by decide, by decide⟩ hce hcv hcl ?_
      refine lv_astore_n (lv' := [(2, .ref q9), (0, .ref h), (1, .int p0)]) hx hb dL_mud_10 rfl hl (by decide) rfl (fun ls hl => ?_)
      refine lv_ldc hx hb fx.2.2.2.1 (fx.2.2.2.2.1 _ mn_5) dL_mud_11 ?_
      exact hret (-2000000000 : Int32) ((0 + 1), (x, w)) _ _ _ _ dL_mud_13 (ht.trans (by simp only [f_L_mud, if_neg n4, if_neg n4_2])) hP hS hg
  · have hP : va_P D vwCl (cKick h aw av kr kt q u2.1 u2.2 v r t) H := hP
    exact hret r1 (0, (u2.1, u2.2)) _ _ _ _ dL_mud_5 (ht.trans (by first | (simp only [f_L_mud, eq_self, if_true, hw3]; done) | (simp only [f_L_mud, hw3]; simp only [eq_self, if_true]))) hP hS hg

/-! L_drill -/
def f_L_drill (N : Nat) (x : XS) (w : WS) (r : RS) (t : TS) (p0 : Int32) : Nat × Int32 × WS :=
  if (f_X3_drill N x w r t p0).1 = 0 then (0, (f_X3_drill N x w r t p0).2.1, ((f_X3_drill N x w r t p0).2.2)) else (if (f_X3_drill N x w r t p0).1 = 2 then ((0 + 1), (-2000000000 : Int32), w) else ((0 + 1), (-2000000000 : Int32), w))

def ok_L_drill (N : Nat) (x : XS) (w : WS) (r : RS) (t : TS) (p0 : Int32) : Prop :=
  (ok_X3_drill N x w r t p0) ∧ True

abbrev RM_L_drill : Room := { frames := 7, cells := 1, slots := 6, locals := 146 }
set_option maxRecDepth 100000 in
set_option maxHeartbeats 4000000 in
theorem c_L_drill (l : Launch) (D : va_G) (q : Nat → ClassId) (sz : Nat) (h : Nat) (aw : Nat) (av : Nat) (kr : Nat → Nat) (kt : Nat → Nat) (x : XS) (w : WS) (v : WS) (r : RS) (t : TS) (p0 : Int32) (N : Nat) (hok : ok_L_drill N x w r t p0) (hstk : l.stackTraces = false) : Met l yL_drill (Cond.codeWith yL_drill cL_drill 3 (some .int) [(0, 5, 6, 17), (0, 5, 10, 19)] :: ALL) RM_L_drill (PX D q [.ref h, .int p0] (cKick h aw av kr kt q x w v r t) sz) (va_Qi (fun (rv : Int32) (u : Nat × (WS)) => f_L_drill N x w r t p0 = (u.1, rv, u.2)) (fun u t9 => va_P D vwCl (cKick h aw av kr kt q x u.2 v r t) t9.heap ∧ sz + u.1 ≤ t9.heap.size) (va_A (cKick h aw av kr kt q x w v r t) sz)) 1 6 (va_A (cKick h aw av kr kt q x w v r t) sz) := by
  refine en_hi (post := fun (rv : Int32) (u : Nat × (WS)) => f_L_drill N x w r t p0 = (u.1, rv, u.2)) (C := fun (u : WS) => cKick h aw av kr kt q x u v r t) rfl (by decide +kernel) (Nat.le_of_ble_eq_true rfl) ?_
  intro p e s m args below meth c Q A H locs ls fx hSX hSZ0 htab hD0 hA hP hS hl hret
  have hx := fx.1
  have hb := fx.2.1
  have hg : s.heap.size + 0 ≤ H.size := hS.1
  have hl : lv_has ls 3 [(0, .ref h), (1, .int p0)] := hl
  have hD : ∀ (x9 : XS) (w9 : WS) (v9 : WS) (r9 : RS) (t9 : TS), va_D _ (cKick h aw av kr kt q x9 w9 v9 r9 t9) := fun _ _ _ _ _ => D_same ((fst_Kick _ _ _ _ _ _ _ _ _ _ _).trans (fst_Kick _ _ _ _ _ _ _ _ _ _ _).symm) hD0
  have ht : f_L_drill N x w r t p0 = f_L_drill N x w r t p0 := rfl
  simp only [ok_L_drill] at hok
  refine lv_aload_n hx hb dL_drill_0 rfl (lv_at hl 0 rfl) ?_
  refine lv_iload_n hx hb dL_drill_1 rfl (lv_at hl 1 rfl) ?_
  obtain ⟨hk1, hok⟩ := hok
  refine kXg_i (xrun fx hSX (SZ.kept hSZ0 hS.2.1) (As := [.int p0]) (rest := []) (c_X3_drill l D q H.size h aw av kr kt x w v r t p0 N hk1 hstk) lk_L_25 ⟨Nat.le_of_ble_eq_true rfl, Nat.le_of_ble_eq_true rfl⟩ ⟨rfl, rfl⟩ hP (hD _ _ _ _ _) hS hA [0, 1, 2, 3, 4, 5, 6, 7, 8, 9, 10, 11, 12, 13] rfl rfl (ci := 3) rfl rfl rfl hl.1 rfl (Nat.le_of_ble_eq_true rfl) dL_drill_2 ⟨Nat.le_of_ble_eq_true rfl, Nat.le_of_ble_eq_true rfl⟩) hP (hD _ _ _ _ _) hS hA hg [0, 1, 2, 3, 4, 5, 6, 7, 8, 9, 10, 11, 12, 13] rfl (fun _ => rfl) (fun k ce q9 H locs hp hP hS hg hce hcv hcl => ?_) (fun r2 u3 H locs hw4 hP hS hg => ?_)
  · have hP : va_P D vwCl (cKick h aw av kr kt q x w v r t) H := hP
    obtain ⟨hk6, hor⟩ := hp
    rcases hor with rfl | rfl
    · have n5 : ¬ (f_X3_drill N x w r t p0).1 = 0 := by rw [hk6]; decide
      refine catchK (k := 2) fx hSX htab [] [(0, 5, 10, 19)] rfl (fun z hz => by simp at hz) (Or.inr (Or.inl rfl)) rfl ⟨by decide, by decide⟩ hce hcv hcl ?_
      refine lv_astore_n (lv' := [(2, .ref q9), (0, .ref h), (1, .int p0)]) hx hb dL_drill_6 rfl hl (by decide) rfl (fun ls hl => ?_)
      refine lv_ldc hx hb fx.2.2.2.1 (fx.2.2.2.2.1 _ mn_5) dL_drill_7 ?_
      exact hret (-2000000000 : Int32) ((0 + 1), w) _ _ _ _ dL_drill_9 (ht.trans (by simp only [f_L_drill, if_neg n5, if_pos hk6])) hP hS hg
    · have n5 : ¬ (f_X3_drill N x w r t p0).1 = 0 := by rw [hk6]; decide
      have n5_2 : ¬ (f_X3_drill N x w r t p0).1 = 2 := by rw [hk6]; decide
      refine catchK (k := 3) fx hSX htab [(0, 5, 6, 17)] [] rfl (fun z hz => by simp only [List.mem_cons, List.not_mem_nil, or_false] at hz; rcases hz with rfl; exact ⟨2, rfl, by decide, by decide⟩) (Or.inr (Or.inr rfl)) rfl ⟨by decide, by decide⟩ hce hcv hcl ?_
      refine lv_astore_n (lv' := [(2, .ref q9), (0, .ref h), (1, .int p0)]) hx hb dL_drill_10 rfl hl (by decide) rfl (fun ls hl => ?_)
      refine lv_ldc hx hb fx.2.2.2.1 (fx.2.2.2.2.1 _ mn_5) dL_drill_11 ?_
      exact hret (-2000000000 : Int32) ((0 + 1), w) _ _ _ _ dL_drill_13 (ht.trans (by simp only [f_L_drill, if_neg n5, if_neg n5_2])) hP hS hg
  · have hP : va_P D vwCl (cKick h aw av kr kt q x u3 v r t) H := hP
    exact hret r2 (0, u3) _ _ _ _ dL_drill_5 (ht.trans (by first | (simp only [f_L_drill, eq_self, if_true, hw4]; done) | (simp only [f_L_drill, hw4]; simp only [eq_self, if_true]))) hP hS hg

/-! L_pass -/
def f_L_pass (N : Nat) (w : WS) (r : RS) (p0 : Int32) : Nat × Int32 × WS :=
  if (f_X3_pass N w r p0).1 = 0 then (0, (f_X3_pass N w r p0).2.1, ((f_X3_pass N w r p0).2.2)) else (if (f_X3_pass N w r p0).1 = 2 then ((0 + 1), (-2000000000 : Int32), w) else ((0 + 1), (-2000000000 : Int32), w))

def ok_L_pass (N : Nat) (w : WS) (r : RS) (p0 : Int32) : Prop :=
  (ok_X3_pass N w r p0) ∧ True

abbrev RM_L_pass : Room := { frames := 7, cells := 1, slots := 6, locals := 152 }
set_option maxRecDepth 100000 in
set_option maxHeartbeats 4000000 in
theorem c_L_pass (l : Launch) (D : va_G) (q : Nat → ClassId) (sz : Nat) (h : Nat) (aw : Nat) (av : Nat) (kr : Nat → Nat) (kt : Nat → Nat) (x : XS) (w : WS) (v : WS) (r : RS) (t : TS) (p0 : Int32) (N : Nat) (hok : ok_L_pass N w r p0) (hstk : l.stackTraces = false) : Met l yL_pass (Cond.codeWith yL_pass cL_pass 3 (some .int) [(0, 5, 6, 17), (0, 5, 10, 19)] :: ALL) RM_L_pass (PX D q [.ref h, .int p0] (cKick h aw av kr kt q x w v r t) sz) (va_Qi (fun (rv : Int32) (u : Nat × (WS)) => f_L_pass N w r p0 = (u.1, rv, u.2)) (fun u t9 => va_P D vwCl (cKick h aw av kr kt q x u.2 v r t) t9.heap ∧ sz + u.1 ≤ t9.heap.size) (va_A (cKick h aw av kr kt q x w v r t) sz)) 1 6 (va_A (cKick h aw av kr kt q x w v r t) sz) := by
  refine en_hi (post := fun (rv : Int32) (u : Nat × (WS)) => f_L_pass N w r p0 = (u.1, rv, u.2)) (C := fun (u : WS) => cKick h aw av kr kt q x u v r t) rfl (by decide +kernel) (Nat.le_of_ble_eq_true rfl) ?_
  intro p e s m args below meth c Q A H locs ls fx hSX hSZ0 htab hD0 hA hP hS hl hret
  have hx := fx.1
  have hb := fx.2.1
  have hg : s.heap.size + 0 ≤ H.size := hS.1
  have hl : lv_has ls 3 [(0, .ref h), (1, .int p0)] := hl
  have hD : ∀ (x9 : XS) (w9 : WS) (v9 : WS) (r9 : RS) (t9 : TS), va_D _ (cKick h aw av kr kt q x9 w9 v9 r9 t9) := fun _ _ _ _ _ => D_same ((fst_Kick _ _ _ _ _ _ _ _ _ _ _).trans (fst_Kick _ _ _ _ _ _ _ _ _ _ _).symm) hD0
  have ht : f_L_pass N w r p0 = f_L_pass N w r p0 := rfl
  simp only [ok_L_pass] at hok
  refine lv_aload_n hx hb dL_pass_0 rfl (lv_at hl 0 rfl) ?_
  refine lv_iload_n hx hb dL_pass_1 rfl (lv_at hl 1 rfl) ?_
  obtain ⟨hk1, hok⟩ := hok
  refine kXg_i (xrun fx hSX (SZ.kept hSZ0 hS.2.1) (As := [.int p0]) (rest := []) (c_X3_pass l D q H.size h aw av kr kt x w v r t p0 N hk1 hstk) lk_L_28 ⟨Nat.le_of_ble_eq_true rfl, Nat.le_of_ble_eq_true rfl⟩ ⟨rfl, rfl⟩ hP (hD _ _ _ _ _) hS hA [0, 1, 2, 3, 4, 5, 6, 7, 8, 9, 10, 11, 12, 13] rfl rfl (ci := 3) rfl rfl rfl hl.1 rfl (Nat.le_of_ble_eq_true rfl) dL_pass_2 ⟨Nat.le_of_ble_eq_true rfl, Nat.le_of_ble_eq_true rfl⟩) hP (hD _ _ _ _ _) hS hA hg [0, 1, 2, 3, 4, 5, 6, 7, 8, 9, 10, 11, 12, 13] rfl (fun _ => rfl) (fun k ce q9 H locs hp hP hS hg hce hcv hcl => ?_) (fun r2 u3 H locs hw4 hP hS hg => ?_)
  · have hP : va_P D vwCl (cKick h aw av kr kt q x w v r t) H := hP
    obtain ⟨hk6, hor⟩ := hp
    rcases hor with rfl | rfl
    · have n5 : ¬ (f_X3_pass N w r p0).1 = 0 := by rw [hk6]; decide
      refine catchK (k := 2) fx hSX htab [] [(0, 5, 10, 19)] rfl (fun z hz => by simp at hz) (Or.inr (Or.inl rfl)) rfl ⟨by decide, by decide⟩ hce hcv hcl ?_
      refine lv_astore_n (lv' := [(2, .ref q9), (0, .ref h), (1, .int p0)]) hx hb dL_pass_6 rfl hl (by decide) rfl (fun ls hl => ?_)
      refine lv_ldc hx hb fx.2.2.2.1 (fx.2.2.2.2.1 _ mn_5) dL_pass_7 ?_
      exact hret (-2000000000 : Int32) ((0 + 1), w) _ _ _ _ dL_pass_9 (ht.trans (by simp only [f_L_pass, if_neg n5, if_pos hk6])) hP hS hg
    · have n5 : ¬ (f_X3_pass N w r p0).1 = 0 := by rw [hk6]; decide
      have n5_2 : ¬ (f_X3_pass N w r p0).1 = 2 := by rw [hk6]; decide
      refine catchK (k := 3) fx hSX htab [(0, 5, 6, 17)] [] rfl (fun z hz => by simp only [List.mem_cons, List.not_mem_nil, or_false] at hz; rcases hz with rfl; exact ⟨2, rfl, by decide, by decide⟩) (Or.inr (Or.inr rfl)) rfl ⟨by decide, by decide⟩ hce hcv hcl ?_
      refine lv_astore_n (lv' := [(2, .ref q9), (0, .ref h), (1, .int p0)]) hx hb dL_pass_10 rfl hl (by decide) rfl (fun ls hl => ?_)
      refine lv_ldc hx hb fx.2.2.2.1 (fx.2.2.2.2.1 _ mn_5) dL_pass_11 ?_
      exact hret (-2000000000 : Int32) ((0 + 1), w) _ _ _ _ dL_pass_13 (ht.trans (by simp only [f_L_pass, if_neg n5, if_neg n5_2])) hP hS hg
  · have hP : va_P D vwCl (cKick h aw av kr kt q x u3 v r t) H := hP
    exact hret r2 (0, u3) _ _ _ _ dL_pass_5 (ht.trans (by first | (simp only [f_L_pass, eq_self, if_true, hw4]; done) | (simp only [f_L_pass, hw4]; simp only [eq_self, if_true]))) hP hS hg

/-! L_close -/
def f_L_close (w : WS) : Nat × Int32 × WS :=
  if (f_X3_close w).1 = 0 then (0, (0 : Int32), ((f_X3_close w).2)) else ((0 + 1), (-2000000000 : Int32), w)

abbrev RM_L_close : Room := { frames := 7, cells := 1, slots := 6, locals := 110 }
set_option maxRecDepth 100000 in
set_option maxHeartbeats 4000000 in
theorem c_L_close (l : Launch) (D : va_G) (q : Nat → ClassId) (sz : Nat) (h : Nat) (aw : Nat) (av : Nat) (kr : Nat → Nat) (kt : Nat → Nat) (x : XS) (w : WS) (v : WS) (r : RS) (t : TS) (hstk : l.stackTraces = false) : Met l yL_close (Cond.codeWith yL_close cL_close 2 (some .int) [(0, 5, 6, 19)] :: ALL) RM_L_close (PX D q [.ref h] (cKick h aw av kr kt q x w v r t) sz) (va_Qi (fun (rv : Int32) (u : Nat × (WS)) => f_L_close w = (u.1, rv, u.2)) (fun u t9 => va_P D vwCl (cKick h aw av kr kt q x u.2 v r t) t9.heap ∧ sz + u.1 ≤ t9.heap.size) (va_A (cKick h aw av kr kt q x w v r t) sz)) 1 6 (va_A (cKick h aw av kr kt q x w v r t) sz) := by
  refine en_hi (post := fun (rv : Int32) (u : Nat × (WS)) => f_L_close w = (u.1, rv, u.2)) (C := fun (u : WS) => cKick h aw av kr kt q x u v r t) rfl (by decide +kernel) (Nat.le_of_ble_eq_true rfl) ?_
  intro p e s m args below meth c Q A H locs ls fx hSX hSZ0 htab hD0 hA hP hS hl hret
  have hx := fx.1
  have hb := fx.2.1
  have hg : s.heap.size + 0 ≤ H.size := hS.1
  have hl : lv_has ls 2 [(0, .ref h)] := hl
  have hD : ∀ (x9 : XS) (w9 : WS) (v9 : WS) (r9 : RS) (t9 : TS), va_D _ (cKick h aw av kr kt q x9 w9 v9 r9 t9) := fun _ _ _ _ _ => D_same ((fst_Kick _ _ _ _ _ _ _ _ _ _ _).trans (fst_Kick _ _ _ _ _ _ _ _ _ _ _).symm) hD0
  have ht : f_L_close w = f_L_close w := rfl
  refine lv_aload_n hx hb dL_close_0 rfl (lv_at hl 0 rfl) ?_
  refine kXg_v (xrun fx hSX (SZ.kept hSZ0 hS.2.1) (As := []) (rest := []) (c_X3_close l D q H.size h aw av kr kt x w v r t hstk) lk_L_31 ⟨Nat.le_of_ble_eq_true rfl, Nat.le_of_ble_eq_true rfl⟩ ⟨rfl, rfl⟩ hP (hD _ _ _ _ _) hS hA [0, 1, 2, 3, 4, 5, 6, 7, 8, 9, 10, 11, 12, 13] rfl rfl (ci := 3) rfl rfl rfl hl.1 rfl (Nat.le_of_ble_eq_true rfl) dL_close_1 ⟨Nat.le_of_ble_eq_true rfl, Nat.le_of_ble_eq_true rfl⟩) hP (hD _ _ _ _ _) hS hA hg [0, 1, 2, 3, 4, 5, 6, 7, 8, 9, 10, 11, 12, 13] rfl (fun _ => rfl) (fun k ce q9 H locs hp hP hS hg hce hcv hcl => ?_) (fun u1 H locs hw2 hP hS hg => ?_)
  · have hP : va_P D vwCl (cKick h aw av kr kt q x w v r t) H := hP
    obtain ⟨hk4, hor⟩ := hp
    subst hor
    have n3 : ¬ (f_X3_close w).1 = 0 := by rw [hk4]; decide
    refine catchK (k := 3) fx hSX htab [] [] rfl (fun z hz => by simp at hz) (Or.inr (Or.inr rfl)) rfl ⟨by decide, by decide⟩ hce hcv hcl ?_
    refine lv_astore_n (lv' := [(1, .ref q9), (0, .ref h)]) hx hb dL_close_6 rfl hl (by decide) rfl (fun ls hl => ?_)
    refine lv_ldc hx hb fx.2.2.2.1 (fx.2.2.2.2.1 _ mn_5) dL_close_7 ?_
    exact hret (-2000000000 : Int32) ((0 + 1), w) _ _ _ _ dL_close_9 (ht.trans (by simp only [f_L_close, if_neg n3])) hP hS hg
  · have hP : va_P D vwCl (cKick h aw av kr kt q x u1 v r t) H := hP
    refine lv_iconst (v := 0) hx hb dL_close_4 (by decide) ?_
    exact hret (0 : Int32) (0, u1) _ _ _ _ dL_close_5 (ht.trans (by first | (simp only [f_L_close, eq_self, if_true, hw2]; done) | (simp only [f_L_close, hw2]; simp only [eq_self, if_true]))) hP hS hg

/-! L_open -/
def f_L_open (w : WS) : Nat × Int32 × WS :=
  if (f_X3_open w).1 = 0 then (0, (f_X3_open w).2.1, ((f_X3_open w).2.2)) else ((0 + 1), (-2000000000 : Int32), w)

abbrev RM_L_open : Room := { frames := 7, cells := 1, slots := 6, locals := 111 }
set_option maxRecDepth 100000 in
set_option maxHeartbeats 4000000 in
theorem c_L_open (l : Launch) (D : va_G) (q : Nat → ClassId) (sz : Nat) (h : Nat) (aw : Nat) (av : Nat) (kr : Nat → Nat) (kt : Nat → Nat) (x : XS) (w : WS) (v : WS) (r : RS) (t : TS) (hstk : l.stackTraces = false) : Met l yL_open (Cond.codeWith yL_open cL_open 2 (some .int) [(0, 4, 5, 19)] :: ALL) RM_L_open (PX D q [.ref h] (cKick h aw av kr kt q x w v r t) sz) (va_Qi (fun (rv : Int32) (u : Nat × (WS)) => f_L_open w = (u.1, rv, u.2)) (fun u t9 => va_P D vwCl (cKick h aw av kr kt q x u.2 v r t) t9.heap ∧ sz + u.1 ≤ t9.heap.size) (va_A (cKick h aw av kr kt q x w v r t) sz)) 1 6 (va_A (cKick h aw av kr kt q x w v r t) sz) := by
  refine en_hi (post := fun (rv : Int32) (u : Nat × (WS)) => f_L_open w = (u.1, rv, u.2)) (C := fun (u : WS) => cKick h aw av kr kt q x u v r t) rfl (by decide +kernel) (Nat.le_of_ble_eq_true rfl) ?_
  intro p e s m args below meth c Q A H locs ls fx hSX hSZ0 htab hD0 hA hP hS hl hret
  have hx := fx.1
  have hb := fx.2.1
  have hg : s.heap.size + 0 ≤ H.size := hS.1
  have hl : lv_has ls 2 [(0, .ref h)] := hl
  have hD : ∀ (x9 : XS) (w9 : WS) (v9 : WS) (r9 : RS) (t9 : TS), va_D _ (cKick h aw av kr kt q x9 w9 v9 r9 t9) := fun _ _ _ _ _ => D_same ((fst_Kick _ _ _ _ _ _ _ _ _ _ _).trans (fst_Kick _ _ _ _ _ _ _ _ _ _ _).symm) hD0
  have ht : f_L_open w = f_L_open w := rfl
  refine lv_aload_n hx hb dL_open_0 rfl (lv_at hl 0 rfl) ?_
  refine kXg_i (xrun fx hSX (SZ.kept hSZ0 hS.2.1) (As := []) (rest := []) (c_X3_open l D q H.size h aw av kr kt x w v r t hstk) lk_L_34 ⟨Nat.le_of_ble_eq_true rfl, Nat.le_of_ble_eq_true rfl⟩ ⟨rfl, rfl⟩ hP (hD _ _ _ _ _) hS hA [0, 1, 2, 3, 4, 5, 6, 7, 8, 9, 10, 11, 12, 13] rfl rfl (ci := 3) rfl rfl rfl hl.1 rfl (Nat.le_of_ble_eq_true rfl) dL_open_1 ⟨Nat.le_of_ble_eq_true rfl, Nat.le_of_ble_eq_true rfl⟩) hP (hD _ _ _ _ _) hS hA hg [0, 1, 2, 3, 4, 5, 6, 7, 8, 9, 10, 11, 12, 13] rfl (fun _ => rfl) (fun k ce q9 H locs hp hP hS hg hce hcv hcl => ?_) (fun r1 u2 H locs hw3 hP hS hg => ?_)
  · have hP : va_P D vwCl (cKick h aw av kr kt q x w v r t) H := hP
    obtain ⟨hk5, hor⟩ := hp
    subst hor
    have n4 : ¬ (f_X3_open w).1 = 0 := by rw [hk5]; decide
    refine catchK (k := 3) fx hSX htab [] [] rfl (fun z hz => by simp at hz) (Or.inr (Or.inr rfl)) rfl ⟨by decide, by decide⟩ hce hcv hcl ?_
    refine lv_astore_n (lv' := [(1, .ref q9), (0, .ref h)]) hx hb dL_open_5 rfl hl (by decide) rfl (fun ls hl => ?_)
    refine lv_ldc hx hb fx.2.2.2.1 (fx.2.2.2.2.1 _ mn_5) dL_open_6 ?_
    exact hret (-2000000000 : Int32) ((0 + 1), w) _ _ _ _ dL_open_8 (ht.trans (by simp only [f_L_open, if_neg n4])) hP hS hg
  · have hP : va_P D vwCl (cKick h aw av kr kt q x u2 v r t) H := hP
    exact hret r1 (0, u2) _ _ _ _ dL_open_4 (ht.trans (by first | (simp only [f_L_open, eq_self, if_true, hw3]; done) | (simp only [f_L_open, hw3]; simp only [eq_self, if_true]))) hP hS hg

/-! L_pump -/
def f_L_pump (N : Nat) (x : XS) (w : WS) (r : RS) (p0 : Int32) (p1 : Int32) : Nat × Int32 × XS × WS :=
  if (f_X3_pump N x w r p0 p1).1 = 0 then (0, (f_X3_pump N x w r p0 p1).2.1, ((f_X3_pump N x w r p0 p1).2.2).1, ((f_X3_pump N x w r p0 p1).2.2).2) else (if (f_X3_pump N x w r p0 p1).1 = 2 then ((0 + 1), (-2000000000 : Int32), x, w) else ((0 + 1), (-2000000000 : Int32), x, w))

def ok_L_pump (N : Nat) (x : XS) (w : WS) (r : RS) (p0 : Int32) (p1 : Int32) : Prop :=
  (ok_X3_pump N x w r p0 p1) ∧ True

abbrev RM_L_pump : Room := { frames := 7, cells := 1, slots := 6, locals := 132 }
set_option maxRecDepth 100000 in
set_option maxHeartbeats 4000000 in
theorem c_L_pump (l : Launch) (D : va_G) (q : Nat → ClassId) (sz : Nat) (h : Nat) (aw : Nat) (av : Nat) (kr : Nat → Nat) (kt : Nat → Nat) (x : XS) (w : WS) (v : WS) (r : RS) (t : TS) (p0 : Int32) (p1 : Int32) (N : Nat) (hok : ok_L_pump N x w r p0 p1) (hstk : l.stackTraces = false) : Met l yL_pump (Cond.codeWith yL_pump cL_pump 4 (some .int) [(0, 6, 7, 17), (0, 6, 11, 19)] :: ALL) RM_L_pump (PX D q [.ref h, .int p0, .int p1] (cKick h aw av kr kt q x w v r t) sz) (va_Qi (fun (rv : Int32) (u : Nat × (XS × WS)) => f_L_pump N x w r p0 p1 = (u.1, rv, u.2)) (fun u t9 => va_P D vwCl (cKick h aw av kr kt q u.2.1 u.2.2 v r t) t9.heap ∧ sz + u.1 ≤ t9.heap.size) (va_A (cKick h aw av kr kt q x w v r t) sz)) 1 6 (va_A (cKick h aw av kr kt q x w v r t) sz) := by
  refine en_hi (post := fun (rv : Int32) (u : Nat × (XS × WS)) => f_L_pump N x w r p0 p1 = (u.1, rv, u.2)) (C := fun (u : XS × WS) => cKick h aw av kr kt q u.1 u.2 v r t) rfl (by decide +kernel) (Nat.le_of_ble_eq_true rfl) ?_
  intro p e s m args below meth c Q A H locs ls fx hSX hSZ0 htab hD0 hA hP hS hl hret
  have hx := fx.1
  have hb := fx.2.1
  have hg : s.heap.size + 0 ≤ H.size := hS.1
  have hl : lv_has ls 4 [(0, .ref h), (1, .int p0), (2, .int p1)] := hl
  have hD : ∀ (x9 : XS) (w9 : WS) (v9 : WS) (r9 : RS) (t9 : TS), va_D _ (cKick h aw av kr kt q x9 w9 v9 r9 t9) := fun _ _ _ _ _ => D_same ((fst_Kick _ _ _ _ _ _ _ _ _ _ _).trans (fst_Kick _ _ _ _ _ _ _ _ _ _ _).symm) hD0
  have ht : f_L_pump N x w r p0 p1 = f_L_pump N x w r p0 p1 := rfl
  simp only [ok_L_pump] at hok
  refine lv_aload_n hx hb dL_pump_0 rfl (lv_at hl 0 rfl) ?_
  refine lv_iload_n hx hb dL_pump_1 rfl (lv_at hl 1 rfl) ?_
  refine lv_iload_n hx hb dL_pump_2 rfl (lv_at hl 2 rfl) ?_
  obtain ⟨hk1, hok⟩ := hok
  refine kXg_i (xrun fx hSX (SZ.kept hSZ0 hS.2.1) (As := [.int p0, .int p1]) (rest := []) (c_X3_pump l D q H.size h aw av kr kt x w v r t p0 p1 N hk1 hstk) lk_L_38 ⟨Nat.le_of_ble_eq_true rfl, Nat.le_of_ble_eq_true rfl⟩ ⟨rfl, rfl⟩ hP (hD _ _ _ _ _) hS hA [0, 1, 2, 3, 4, 5, 6, 7, 8, 9, 10, 11, 12, 13] rfl rfl (ci := 3) rfl rfl rfl hl.1 rfl (Nat.le_of_ble_eq_true rfl) dL_pump_3 ⟨Nat.le_of_ble_eq_true rfl, Nat.le_of_ble_eq_true rfl⟩) hP (hD _ _ _ _ _) hS hA hg [0, 1, 2, 3, 4, 5, 6, 7, 8, 9, 10, 11, 12, 13] rfl (fun _ => rfl) (fun k ce q9 H locs hp hP hS hg hce hcv hcl => ?_) (fun r2 u3 H locs hw4 hP hS hg => ?_)
  · have hP : va_P D vwCl (cKick h aw av kr kt q x w v r t) H := hP
    obtain ⟨hk6, hor⟩ := hp
    rcases hor with rfl | rfl
    · have n5 : ¬ (f_X3_pump N x w r p0 p1).1 = 0 := by rw [hk6]; decide
      refine catchK (k := 2) fx hSX htab [] [(0, 6, 11, 19)] rfl (fun z hz => by simp at hz) (Or.inr (Or.inl rfl)) rfl ⟨by decide, by decide⟩ hce hcv hcl ?_
      refine lv_astore_n (lv' := [(3, .ref q9), (0, .ref h), (1, .int p0), (2, .int p1)]) hx hb dL_pump_7 rfl hl (by decide) rfl (fun ls hl => ?_)
      refine lv_ldc hx hb fx.2.2.2.1 (fx.2.2.2.2.1 _ mn_5) dL_pump_8 ?_
      exact hret (-2000000000 : Int32) ((0 + 1), (x, w)) _ _ _ _ dL_pump_10 (ht.trans (by simp only [f_L_pump, if_neg n5, if_pos hk6])) hP hS hg
    · have n5 : ¬ (f_X3_pump N x w r p0 p1).1 = 0 := by rw [hk6]; decide
      have n5_2 : ¬ (f_X3_pump N x w r p0 p1).1 = 2 := by rw [hk6]; decide
      refine catchK (k := 3) fx hSX htab [(0, 6, 7, 17)] [] rfl (fun z hz => by simp only [List.mem_cons, List.not_mem_nil, or_false] at hz; rcases hz with rfl; exact ⟨2, rfl, by decide, by decide⟩) (Or.inr (Or.inr rfl)) rfl ⟨by decide, by decide⟩ hce hcv hcl ?_
      refine lv_astore_n (lv' := [(3, .ref q9), (0, .ref h), (1, .int p0), (2, .int p1)]) hx hb dL_pump_11 rfl hl (by decide) rfl (fun ls hl => ?_)
      refine lv_ldc hx hb fx.2.2.2.1 (fx.2.2.2.2.1 _ mn_5) dL_pump_12 ?_
      exact hret (-2000000000 : Int32) ((0 + 1), (x, w)) _ _ _ _ dL_pump_14 (ht.trans (by simp only [f_L_pump, if_neg n5, if_neg n5_2])) hP hS hg
  · have hP : va_P D vwCl (cKick h aw av kr kt q u3.1 u3.2 v r t) H := hP
    exact hret r2 (0, (u3.1, u3.2)) _ _ _ _ dL_pump_6 (ht.trans (by first | (simp only [f_L_pump, eq_self, if_true, hw4]; done) | (simp only [f_L_pump, hw4]; simp only [eq_self, if_true]))) hP hS hg

/-! L_casing -/
def f_L_casing (x : XS) (w : WS) (t : TS) (p0 : Int32) : Nat × Int32 × XS × WS × TS :=
  if (f_X3_casing x w t p0).1 = 0 then (0, (f_X3_casing x w t p0).2.1, ((f_X3_casing x w t p0).2.2).1, ((f_X3_casing x w t p0).2.2).2.1, ((f_X3_casing x w t p0).2.2).2.2) else (if (f_X3_casing x w t p0).1 = 2 then ((0 + 1), (-2000000000 : Int32), x, w, t) else ((0 + 1), (-2000000000 : Int32), x, w, t))

abbrev RM_L_casing : Room := { frames := 7, cells := 1, slots := 6, locals := 112 }
set_option maxRecDepth 100000 in
set_option maxHeartbeats 4000000 in
theorem c_L_casing (l : Launch) (D : va_G) (q : Nat → ClassId) (sz : Nat) (h : Nat) (aw : Nat) (av : Nat) (kr : Nat → Nat) (kt : Nat → Nat) (x : XS) (w : WS) (v : WS) (r : RS) (t : TS) (p0 : Int32) (hstk : l.stackTraces = false) : Met l yL_casing (Cond.codeWith yL_casing cL_casing 3 (some .int) [(0, 5, 6, 17), (0, 5, 10, 19)] :: ALL) RM_L_casing (PX D q [.ref h, .int p0] (cKick h aw av kr kt q x w v r t) sz) (va_Qi (fun (rv : Int32) (u : Nat × (XS × WS × TS)) => f_L_casing x w t p0 = (u.1, rv, u.2)) (fun u t9 => va_P D vwCl (cKick h aw av kr kt q u.2.1 u.2.2.1 v r u.2.2.2) t9.heap ∧ sz + u.1 ≤ t9.heap.size) (va_A (cKick h aw av kr kt q x w v r t) sz)) 1 6 (va_A (cKick h aw av kr kt q x w v r t) sz) := by
  refine en_hi (post := fun (rv : Int32) (u : Nat × (XS × WS × TS)) => f_L_casing x w t p0 = (u.1, rv, u.2)) (C := fun (u : XS × WS × TS) => cKick h aw av kr kt q u.1 u.2.1 v r u.2.2) rfl (by decide +kernel) (Nat.le_of_ble_eq_true rfl) ?_
  intro p e s m args below meth c Q A H locs ls fx hSX hSZ0 htab hD0 hA hP hS hl hret
  have hx := fx.1
  have hb := fx.2.1
  have hg : s.heap.size + 0 ≤ H.size := hS.1
  have hl : lv_has ls 3 [(0, .ref h), (1, .int p0)] := hl
  have hD : ∀ (x9 : XS) (w9 : WS) (v9 : WS) (r9 : RS) (t9 : TS), va_D _ (cKick h aw av kr kt q x9 w9 v9 r9 t9) := fun _ _ _ _ _ => D_same ((fst_Kick _ _ _ _ _ _ _ _ _ _ _).trans (fst_Kick _ _ _ _ _ _ _ _ _ _ _).symm) hD0
  have ht : f_L_casing x w t p0 = f_L_casing x w t p0 := rfl
  refine lv_aload_n hx hb dL_casing_0 rfl (lv_at hl 0 rfl) ?_
  refine lv_iload_n hx hb dL_casing_1 rfl (lv_at hl 1 rfl) ?_
  refine kXg_i (xrun fx hSX (SZ.kept hSZ0 hS.2.1) (As := [.int p0]) (rest := []) (c_X3_casing l D q H.size h aw av kr kt x w v r t p0 hstk) lk_L_42 ⟨Nat.le_of_ble_eq_true rfl, Nat.le_of_ble_eq_true rfl⟩ ⟨rfl, rfl⟩ hP (hD _ _ _ _ _) hS hA [0, 1, 2, 3, 4, 5, 6, 7, 8, 9, 10, 11, 12, 13] rfl rfl (ci := 3) rfl rfl rfl hl.1 rfl (Nat.le_of_ble_eq_true rfl) dL_casing_2 ⟨Nat.le_of_ble_eq_true rfl, Nat.le_of_ble_eq_true rfl⟩) hP (hD _ _ _ _ _) hS hA hg [0, 1, 2, 3, 4, 5, 6, 7, 8, 9, 10, 11, 12, 13] rfl (fun _ => rfl) (fun k ce q9 H locs hp hP hS hg hce hcv hcl => ?_) (fun r1 u2 H locs hw3 hP hS hg => ?_)
  · have hP : va_P D vwCl (cKick h aw av kr kt q x w v r t) H := hP
    obtain ⟨hk5, hor⟩ := hp
    rcases hor with rfl | rfl
    · have n4 : ¬ (f_X3_casing x w t p0).1 = 0 := by rw [hk5]; decide
      refine catchK (k := 2) fx hSX htab [] [(0, 5, 10, 19)] rfl (fun z hz => by simp at hz) (Or.inr (Or.inl rfl)) rfl ⟨by decide, by decide⟩ hce hcv hcl ?_
      refine lv_astore_n (lv' := [(2, .ref q9), (0, .ref h), (1, .int p0)]) hx hb dL_casing_6 rfl hl (by decide) rfl (fun ls hl => ?_)
      refine lv_ldc hx hb fx.2.2.2.1 (fx.2.2.2.2.1 _ mn_5) dL_casing_7 ?_
      exact hret (-2000000000 : Int32) ((0 + 1), (x, w, t)) _ _ _ _ dL_casing_9 (ht.trans (by simp only [f_L_casing, if_neg n4, if_pos hk5])) hP hS hg
    · have n4 : ¬ (f_X3_casing x w t p0).1 = 0 := by rw [hk5]; decide
      have n4_2 : ¬ (f_X3_casing x w t p0).1 = 2 := by rw [hk5]; decide
      refine catchK (k := 3) fx hSX htab [(0, 5, 6, 17)] [] rfl (fun z hz => by simp only [List.mem_cons, List.not_mem_nil, or_false] at hz; rcases hz with rfl; exact ⟨2, rfl, by decide, by decide⟩) (Or.inr (Or.inr rfl)) rfl ⟨by decide, by decide⟩ hce hcv hcl ?_
      refine lv_astore_n (lv' := [(2, .ref q9), (0, .ref h), (1, .int p0)]) hx hb dL_casing_10 rfl hl (by decide) rfl (fun ls hl => ?_)
      refine lv_ldc hx hb fx.2.2.2.1 (fx.2.2.2.2.1 _ mn_5) dL_casing_11 ?_
      exact hret (-2000000000 : Int32) ((0 + 1), (x, w, t)) _ _ _ _ dL_casing_13 (ht.trans (by simp only [f_L_casing, if_neg n4, if_neg n4_2])) hP hS hg
  · have hP : va_P D vwCl (cKick h aw av kr kt q u2.1 u2.2.1 v r u2.2.2) H := hP
    exact hret r1 (0, (u2.1, u2.2.1, u2.2.2)) _ _ _ _ dL_casing_5 (ht.trans (by first | (simp only [f_L_casing, eq_self, if_true, hw3]; done) | (simp only [f_L_casing, hw3]; simp only [eq_self, if_true]))) hP hS hg

/-! L_strength -/
def f_L_strength (w : WS) (p0 : Int32) : Nat × Int32 × WS :=
  if (f_X3_strength w p0).1 = 0 then (0, (f_X3_strength w p0).2.1, ((f_X3_strength w p0).2.2)) else ((0 + 1), (-2000000000 : Int32), w)

abbrev RM_L_strength : Room := { frames := 7, cells := 1, slots := 6, locals := 112 }
set_option maxRecDepth 100000 in
set_option maxHeartbeats 4000000 in
theorem c_L_strength (l : Launch) (D : va_G) (q : Nat → ClassId) (sz : Nat) (h : Nat) (aw : Nat) (av : Nat) (kr : Nat → Nat) (kt : Nat → Nat) (x : XS) (w : WS) (v : WS) (r : RS) (t : TS) (p0 : Int32) (hstk : l.stackTraces = false) : Met l yL_strength (Cond.codeWith yL_strength cL_strength 3 (some .int) [(0, 5, 6, 17)] :: ALL) RM_L_strength (PX D q [.ref h, .int p0] (cKick h aw av kr kt q x w v r t) sz) (va_Qi (fun (rv : Int32) (u : Nat × (WS)) => f_L_strength w p0 = (u.1, rv, u.2)) (fun u t9 => va_P D vwCl (cKick h aw av kr kt q x u.2 v r t) t9.heap ∧ sz + u.1 ≤ t9.heap.size) (va_A (cKick h aw av kr kt q x w v r t) sz)) 1 6 (va_A (cKick h aw av kr kt q x w v r t) sz) := by
  refine en_hi (post := fun (rv : Int32) (u : Nat × (WS)) => f_L_strength w p0 = (u.1, rv, u.2)) (C := fun (u : WS) => cKick h aw av kr kt q x u v r t) rfl (by decide +kernel) (Nat.le_of_ble_eq_true rfl) ?_
  intro p e s m args below meth c Q A H locs ls fx hSX hSZ0 htab hD0 hA hP hS hl hret
  have hx := fx.1
  have hb := fx.2.1
  have hg : s.heap.size + 0 ≤ H.size := hS.1
  have hl : lv_has ls 3 [(0, .ref h), (1, .int p0)] := hl
  have hD : ∀ (x9 : XS) (w9 : WS) (v9 : WS) (r9 : RS) (t9 : TS), va_D _ (cKick h aw av kr kt q x9 w9 v9 r9 t9) := fun _ _ _ _ _ => D_same ((fst_Kick _ _ _ _ _ _ _ _ _ _ _).trans (fst_Kick _ _ _ _ _ _ _ _ _ _ _).symm) hD0
  have ht : f_L_strength w p0 = f_L_strength w p0 := rfl
  refine lv_aload_n hx hb dL_strength_0 rfl (lv_at hl 0 rfl) ?_
  refine lv_iload_n hx hb dL_strength_1 rfl (lv_at hl 1 rfl) ?_
  refine kXg_i (xrun fx hSX (SZ.kept hSZ0 hS.2.1) (As := [.int p0]) (rest := []) (c_X3_strength l D q H.size h aw av kr kt x w v r t p0 hstk) lk_L_45 ⟨Nat.le_of_ble_eq_true rfl, Nat.le_of_ble_eq_true rfl⟩ ⟨rfl, rfl⟩ hP (hD _ _ _ _ _) hS hA [0, 1, 2, 3, 4, 5, 6, 7, 8, 9, 10, 11, 12, 13] rfl rfl (ci := 3) rfl rfl rfl hl.1 rfl (Nat.le_of_ble_eq_true rfl) dL_strength_2 ⟨Nat.le_of_ble_eq_true rfl, Nat.le_of_ble_eq_true rfl⟩) hP (hD _ _ _ _ _) hS hA hg [0, 1, 2, 3, 4, 5, 6, 7, 8, 9, 10, 11, 12, 13] rfl (fun _ => rfl) (fun k ce q9 H locs hp hP hS hg hce hcv hcl => ?_) (fun r1 u2 H locs hw3 hP hS hg => ?_)
  · have hP : va_P D vwCl (cKick h aw av kr kt q x w v r t) H := hP
    obtain ⟨hk5, hor⟩ := hp
    subst hor
    have n4 : ¬ (f_X3_strength w p0).1 = 0 := by rw [hk5]; decide
    refine catchK (k := 2) fx hSX htab [] [] rfl (fun z hz => by simp at hz) (Or.inr (Or.inl rfl)) rfl ⟨by decide, by decide⟩ hce hcv hcl ?_
    refine lv_astore_n (lv' := [(2, .ref q9), (0, .ref h), (1, .int p0)]) hx hb dL_strength_6 rfl hl (by decide) rfl (fun ls hl => ?_)
    refine lv_ldc hx hb fx.2.2.2.1 (fx.2.2.2.2.1 _ mn_5) dL_strength_7 ?_
    exact hret (-2000000000 : Int32) ((0 + 1), w) _ _ _ _ dL_strength_9 (ht.trans (by simp only [f_L_strength, if_neg n4])) hP hS hg
  · have hP : va_P D vwCl (cKick h aw av kr kt q x u2 v r t) H := hP
    exact hret r1 (0, u2) _ _ _ _ dL_strength_5 (ht.trans (by first | (simp only [f_L_strength, eq_self, if_true, hw3]; done) | (simp only [f_L_strength, hw3]; simp only [eq_self, if_true]))) hP hS hg

/-! L_test -/
def f_L_test (x : XS) (w : WS) (t : TS) (p0 : Int32) (p1 : Int32) : Nat × Int32 × WS × TS :=
  if (f_X3_test x w t p0 p1).1 = 0 then (if (f_X3_test x w t p0 p1).2.1 = 0 then (0, (0 : Int32), ((f_X3_test x w t p0 p1).2.2).1, ((f_X3_test x w t p0 p1).2.2).2) else (0, (1 : Int32), ((f_X3_test x w t p0 p1).2.2).1, ((f_X3_test x w t p0 p1).2.2).2)) else (if (f_X3_test x w t p0 p1).1 = 2 then ((0 + 1), (-2000000000 : Int32), w, t) else ((0 + 1), (-2000000000 : Int32), w, t))

abbrev RM_L_test : Room := { frames := 7, cells := 1, slots := 6, locals := 113 }
set_option maxRecDepth 100000 in
set_option maxHeartbeats 4000000 in
theorem c_L_test (l : Launch) (D : va_G) (q : Nat → ClassId) (sz : Nat) (h : Nat) (aw : Nat) (av : Nat) (kr : Nat → Nat) (kt : Nat → Nat) (x : XS) (w : WS) (v : WS) (r : RS) (t : TS) (p0 : Int32) (p1 : Int32) (hstk : l.stackTraces = false) : Met l yL_test (Cond.codeWith yL_test cL_test 4 (some .int) [(0, 14, 15, 17), (0, 14, 19, 19)] :: ALL) RM_L_test (PX D q [.ref h, .int p0, .int p1] (cKick h aw av kr kt q x w v r t) sz) (va_Qi (fun (rv : Int32) (u : Nat × (WS × TS)) => f_L_test x w t p0 p1 = (u.1, rv, u.2)) (fun u t9 => va_P D vwCl (cKick h aw av kr kt q x u.2.1 v r u.2.2) t9.heap ∧ sz + u.1 ≤ t9.heap.size) (va_A (cKick h aw av kr kt q x w v r t) sz)) 1 6 (va_A (cKick h aw av kr kt q x w v r t) sz) := by
  refine en_hi (post := fun (rv : Int32) (u : Nat × (WS × TS)) => f_L_test x w t p0 p1 = (u.1, rv, u.2)) (C := fun (u : WS × TS) => cKick h aw av kr kt q x u.1 v r u.2) rfl (by decide +kernel) (Nat.le_of_ble_eq_true rfl) ?_
  intro p e s m args below meth c Q A H locs ls fx hSX hSZ0 htab hD0 hA hP hS hl hret
  have hx := fx.1
  have hb := fx.2.1
  have hg : s.heap.size + 0 ≤ H.size := hS.1
  have hl : lv_has ls 4 [(0, .ref h), (1, .int p0), (2, .int p1)] := hl
  have hD : ∀ (x9 : XS) (w9 : WS) (v9 : WS) (r9 : RS) (t9 : TS), va_D _ (cKick h aw av kr kt q x9 w9 v9 r9 t9) := fun _ _ _ _ _ => D_same ((fst_Kick _ _ _ _ _ _ _ _ _ _ _).trans (fst_Kick _ _ _ _ _ _ _ _ _ _ _).symm) hD0
  have ht : f_L_test x w t p0 p1 = f_L_test x w t p0 p1 := rfl
  refine lv_aload_n hx hb dL_test_0 rfl (lv_at hl 0 rfl) ?_
  refine lv_iload_n hx hb dL_test_1 rfl (lv_at hl 1 rfl) ?_
  refine lv_iload_n hx hb dL_test_2 rfl (lv_at hl 2 rfl) ?_
  refine kXg_i (xrun fx hSX (SZ.kept hSZ0 hS.2.1) (As := [.int p0, .int p1]) (rest := []) (c_X3_test l D q H.size h aw av kr kt x w v r t p0 p1 hstk) lk_L_48 ⟨Nat.le_of_ble_eq_true rfl, Nat.le_of_ble_eq_true rfl⟩ ⟨rfl, rfl⟩ hP (hD _ _ _ _ _) hS hA [0, 1, 2, 3, 4, 5, 6, 7, 8, 9, 10, 11, 12, 13] rfl rfl (ci := 3) rfl rfl rfl hl.1 rfl (Nat.le_of_ble_eq_true rfl) dL_test_3 ⟨Nat.le_of_ble_eq_true rfl, Nat.le_of_ble_eq_true rfl⟩) hP (hD _ _ _ _ _) hS hA hg [0, 1, 2, 3, 4, 5, 6, 7, 8, 9, 10, 11, 12, 13] rfl (fun _ => rfl) (fun k ce q9 H locs hp hP hS hg hce hcv hcl => ?_) (fun r1 u2 H locs hw3 hP hS hg => ?_)
  · have hP : va_P D vwCl (cKick h aw av kr kt q x w v r t) H := hP
    obtain ⟨hk7, hor⟩ := hp
    rcases hor with rfl | rfl
    · have n6 : ¬ (f_X3_test x w t p0 p1).1 = 0 := by rw [hk7]; decide
      refine catchK (k := 2) fx hSX htab [] [(0, 14, 19, 19)] rfl (fun z hz => by simp at hz) (Or.inr (Or.inl rfl)) rfl ⟨by decide, by decide⟩ hce hcv hcl ?_
      refine lv_astore_n (lv' := [(3, .ref q9), (0, .ref h), (1, .int p0), (2, .int p1)]) hx hb dL_test_15 rfl hl (by decide) rfl (fun ls hl => ?_)
      refine lv_ldc hx hb fx.2.2.2.1 (fx.2.2.2.2.1 _ mn_5) dL_test_16 ?_
      exact hret (-2000000000 : Int32) ((0 + 1), (w, t)) _ _ _ _ dL_test_18 (ht.trans (by simp only [f_L_test, if_neg n6, if_pos hk7])) hP hS hg
    · have n6 : ¬ (f_X3_test x w t p0 p1).1 = 0 := by rw [hk7]; decide
      have n6_2 : ¬ (f_X3_test x w t p0 p1).1 = 2 := by rw [hk7]; decide
      refine catchK (k := 3) fx hSX htab [(0, 14, 15, 17)] [] rfl (fun z hz => by simp only [List.mem_cons, List.not_mem_nil, or_false] at hz; rcases hz with rfl; exact ⟨2, rfl, by decide, by decide⟩) (Or.inr (Or.inr rfl)) rfl ⟨by decide, by decide⟩ hce hcv hcl ?_
      refine lv_astore_n (lv' := [(3, .ref q9), (0, .ref h), (1, .int p0), (2, .int p1)]) hx hb dL_test_19 rfl hl (by decide) rfl (fun ls hl => ?_)
      refine lv_ldc hx hb fx.2.2.2.1 (fx.2.2.2.2.1 _ mn_5) dL_test_20 ?_
      exact hret (-2000000000 : Int32) ((0 + 1), (w, t)) _ _ _ _ dL_test_22 (ht.trans (by simp only [f_L_test, if_neg n6, if_neg n6_2])) hP hS hg
  · have hP : va_P D vwCl (cKick h aw av kr kt q x u2.1 v r u2.2) H := hP
    obtain ⟨hw3, hz4⟩ := hw3
    refine lv_if_eq (tgt := 13) hx hb dL_test_6 (by decide) (fun c5 => ?_) (fun c5 => ?_)
    · refine lv_iconst (v := 0) hx hb dL_test_13 (by decide) ?_
      exact hret (0 : Int32) (0, (u2.1, u2.2)) _ _ _ _ dL_test_14 (ht.trans (by first | (simp only [f_L_test, eq_self, if_true, if_pos c5, hw3]; done) | (simp only [f_L_test, hw3]; simp only [eq_self, if_true, if_pos c5]))) hP hS hg
    · refine lv_iconst (v := 1) hx hb dL_test_9 (by decide) ?_
      refine lv_goto (tgt := 14) hx hb dL_test_10 (by decide) ?_
      exact hret (1 : Int32) (0, (u2.1, u2.2)) _ _ _ _ dL_test_14 (ht.trans (by first | (simp only [f_L_test, eq_self, if_true, if_neg c5, hw3]; done) | (simp only [f_L_test, hw3]; simp only [eq_self, if_true, if_neg c5]))) hP hS hg

/-! L_stop -/
def f_L_stop (x : XS) (p0 : Int32) (p1 : Int32) : Nat × Int32 × XS :=
  if (f_X3_stop x p0 p1).1 = 0 then (0, (f_X3_stop x p0 p1).2.1, ((f_X3_stop x p0 p1).2.2)) else ((0 + 1), (-2000000000 : Int32), x)

abbrev RM_L_stop : Room := { frames := 7, cells := 1, slots := 6, locals := 113 }
set_option maxRecDepth 100000 in
set_option maxHeartbeats 4000000 in
theorem c_L_stop (l : Launch) (D : va_G) (q : Nat → ClassId) (sz : Nat) (h : Nat) (aw : Nat) (av : Nat) (kr : Nat → Nat) (kt : Nat → Nat) (x : XS) (w : WS) (v : WS) (r : RS) (t : TS) (p0 : Int32) (p1 : Int32) (hstk : l.stackTraces = false) : Met l yL_stop (Cond.codeWith yL_stop cL_stop 4 (some .int) [(0, 6, 7, 14)] :: ALL) RM_L_stop (PX D q [.ref h, .int p0, .int p1] (cKick h aw av kr kt q x w v r t) sz) (va_Qi (fun (rv : Int32) (u : Nat × (XS)) => f_L_stop x p0 p1 = (u.1, rv, u.2)) (fun u t9 => va_P D vwCl (cKick h aw av kr kt q u.2 w v r t) t9.heap ∧ sz + u.1 ≤ t9.heap.size) (va_A (cKick h aw av kr kt q x w v r t) sz)) 1 6 (va_A (cKick h aw av kr kt q x w v r t) sz) := by
  refine en_hi (post := fun (rv : Int32) (u : Nat × (XS)) => f_L_stop x p0 p1 = (u.1, rv, u.2)) (C := fun (u : XS) => cKick h aw av kr kt q u w v r t) rfl (by decide +kernel) (Nat.le_of_ble_eq_true rfl) ?_
  intro p e s m args below meth c Q A H locs ls fx hSX hSZ0 htab hD0 hA hP hS hl hret
  have hx := fx.1
  have hb := fx.2.1
  have hg : s.heap.size + 0 ≤ H.size := hS.1
  have hl : lv_has ls 4 [(0, .ref h), (1, .int p0), (2, .int p1)] := hl
  have hD : ∀ (x9 : XS) (w9 : WS) (v9 : WS) (r9 : RS) (t9 : TS), va_D _ (cKick h aw av kr kt q x9 w9 v9 r9 t9) := fun _ _ _ _ _ => D_same ((fst_Kick _ _ _ _ _ _ _ _ _ _ _).trans (fst_Kick _ _ _ _ _ _ _ _ _ _ _).symm) hD0
  have ht : f_L_stop x p0 p1 = f_L_stop x p0 p1 := rfl
  refine lv_aload_n hx hb dL_stop_0 rfl (lv_at hl 0 rfl) ?_
  refine lv_iload_n hx hb dL_stop_1 rfl (lv_at hl 1 rfl) ?_
  refine lv_iload_n hx hb dL_stop_2 rfl (lv_at hl 2 rfl) ?_
  refine kXg_i (xrun fx hSX (SZ.kept hSZ0 hS.2.1) (As := [.int p0, .int p1]) (rest := []) (c_X3_stop l D q H.size h aw av kr kt x w v r t p0 p1 hstk) lk_L_52 ⟨Nat.le_of_ble_eq_true rfl, Nat.le_of_ble_eq_true rfl⟩ ⟨rfl, rfl⟩ hP (hD _ _ _ _ _) hS hA [0, 1, 2, 3, 4, 5, 6, 7, 8, 9, 10, 11, 12, 13] rfl rfl (ci := 3) rfl rfl rfl hl.1 rfl (Nat.le_of_ble_eq_true rfl) dL_stop_3 ⟨Nat.le_of_ble_eq_true rfl, Nat.le_of_ble_eq_true rfl⟩) hP (hD _ _ _ _ _) hS hA hg [0, 1, 2, 3, 4, 5, 6, 7, 8, 9, 10, 11, 12, 13] rfl (fun _ => rfl) (fun k ce q9 H locs hp hP hS hg hce hcv hcl => ?_) (fun r1 u2 H locs hw3 hP hS hg => ?_)
  · have hP : va_P D vwCl (cKick h aw av kr kt q x w v r t) H := hP
    obtain ⟨hk5, hor⟩ := hp
    subst hor
    have n4 : ¬ (f_X3_stop x p0 p1).1 = 0 := by rw [hk5]; decide
    refine catchK (k := 1) fx hSX htab [] [] rfl (fun z hz => by simp at hz) (Or.inl rfl) rfl ⟨by decide, by decide⟩ hce hcv hcl ?_
    refine lv_astore_n (lv' := [(3, .ref q9), (0, .ref h), (1, .int p0), (2, .int p1)]) hx hb dL_stop_7 rfl hl (by decide) rfl (fun ls hl => ?_)
    refine lv_ldc hx hb fx.2.2.2.1 (fx.2.2.2.2.1 _ mn_5) dL_stop_8 ?_
    exact hret (-2000000000 : Int32) ((0 + 1), x) _ _ _ _ dL_stop_10 (ht.trans (by simp only [f_L_stop, if_neg n4])) hP hS hg
  · have hP : va_P D vwCl (cKick h aw av kr kt q u2 w v r t) H := hP
    exact hret r1 (0, u2) _ _ _ _ dL_stop_6 (ht.trans (by first | (simp only [f_L_stop, eq_self, if_true, hw3]; done) | (simp only [f_L_stop, hw3]; simp only [eq_self, if_true]))) hP hS hg

/-! L_pressure -/
def f_L_pressure (w : WS) (r : RS) (p0 : Int32) : Nat × Int32 :=
  if (f_X3_pressure w r p0).1 = 0 then (0, (f_X3_pressure w r p0).2) else ((0 + 1), (-2000000000 : Int32))

abbrev RM_L_pressure : Room := { frames := 7, cells := 1, slots := 6, locals := 111 }
set_option maxRecDepth 100000 in
set_option maxHeartbeats 4000000 in
theorem c_L_pressure (l : Launch) (D : va_G) (q : Nat → ClassId) (sz : Nat) (h : Nat) (aw : Nat) (av : Nat) (kr : Nat → Nat) (kt : Nat → Nat) (x : XS) (w : WS) (v : WS) (r : RS) (t : TS) (p0 : Int32) (hstk : l.stackTraces = false) : Met l yL_pressure (Cond.codeWith yL_pressure cL_pressure 3 (some .int) [(0, 5, 6, 17)] :: ALL) RM_L_pressure (PX D q [.ref h, .int p0] (cKick h aw av kr kt q x w v r t) sz) (va_Qi (fun (rv : Int32) (u : Nat × (Unit)) => f_L_pressure w r p0 = (u.1, rv)) (fun u t9 => va_P D vwCl (cKick h aw av kr kt q x w v r t) t9.heap ∧ sz + u.1 ≤ t9.heap.size) (va_A (cKick h aw av kr kt q x w v r t) sz)) 1 6 (va_A (cKick h aw av kr kt q x w v r t) sz) := by
  refine en_hi (post := fun (rv : Int32) (u : Nat × (Unit)) => f_L_pressure w r p0 = (u.1, rv)) (C := fun (_ : Unit) => cKick h aw av kr kt q x w v r t) rfl (by decide +kernel) (Nat.le_of_ble_eq_true rfl) ?_
  intro p e s m args below meth c Q A H locs ls fx hSX hSZ0 htab hD0 hA hP hS hl hret
  have hx := fx.1
  have hb := fx.2.1
  have hg : s.heap.size + 0 ≤ H.size := hS.1
  have hl : lv_has ls 3 [(0, .ref h), (1, .int p0)] := hl
  have hD : ∀ (x9 : XS) (w9 : WS) (v9 : WS) (r9 : RS) (t9 : TS), va_D _ (cKick h aw av kr kt q x9 w9 v9 r9 t9) := fun _ _ _ _ _ => D_same ((fst_Kick _ _ _ _ _ _ _ _ _ _ _).trans (fst_Kick _ _ _ _ _ _ _ _ _ _ _).symm) hD0
  have ht : f_L_pressure w r p0 = f_L_pressure w r p0 := rfl
  refine lv_aload_n hx hb dL_pressure_0 rfl (lv_at hl 0 rfl) ?_
  refine lv_iload_n hx hb dL_pressure_1 rfl (lv_at hl 1 rfl) ?_
  refine kXg_i (xrun fx hSX (SZ.kept hSZ0 hS.2.1) (As := [.int p0]) (rest := []) (c_X3_pressure l D q H.size h aw av kr kt x w v r t p0 hstk) lk_L_56 ⟨Nat.le_of_ble_eq_true rfl, Nat.le_of_ble_eq_true rfl⟩ ⟨rfl, rfl⟩ hP (hD _ _ _ _ _) hS hA [0, 1, 2, 3, 4, 5, 6, 7, 8, 9, 10, 11, 12, 13] rfl rfl (ci := 3) rfl rfl rfl hl.1 rfl (Nat.le_of_ble_eq_true rfl) dL_pressure_2 ⟨Nat.le_of_ble_eq_true rfl, Nat.le_of_ble_eq_true rfl⟩) hP (hD _ _ _ _ _) hS hA hg [0, 1, 2, 3, 4, 5, 6, 7, 8, 9, 10, 11, 12, 13] rfl (fun _ => rfl) (fun k ce q9 H locs hp hP hS hg hce hcv hcl => ?_) (fun r1 _ H locs hw3 hP hS hg => ?_)
  · have hP : va_P D vwCl (cKick h aw av kr kt q x w v r t) H := hP
    obtain ⟨hk5, hor⟩ := hp
    subst hor
    have n4 : ¬ (f_X3_pressure w r p0).1 = 0 := by rw [hk5]; decide
    refine catchK (k := 2) fx hSX htab [] [] rfl (fun z hz => by simp at hz) (Or.inr (Or.inl rfl)) rfl ⟨by decide, by decide⟩ hce hcv hcl ?_
    refine lv_astore_n (lv' := [(2, .ref q9), (0, .ref h), (1, .int p0)]) hx hb dL_pressure_6 rfl hl (by decide) rfl (fun ls hl => ?_)
    refine lv_ldc hx hb fx.2.2.2.1 (fx.2.2.2.2.1 _ mn_5) dL_pressure_7 ?_
    exact hret (-2000000000 : Int32) ((0 + 1), ()) _ _ _ _ dL_pressure_9 (ht.trans (by simp only [f_L_pressure, if_neg n4])) hP hS hg
  · have hP : va_P D vwCl (cKick h aw av kr kt q x w v r t) H := hP
    exact hret r1 (0, ()) _ _ _ _ dL_pressure_5 (ht.trans (by first | (simp only [f_L_pressure, eq_self, if_true, hw3]; done) | (simp only [f_L_pressure, hw3]; simp only [eq_self, if_true]))) hP hS hg

/-! L_of -/
def f_L_of (x : XS) (w : WS) (p0 : Int32) : Nat × Int64 :=
  if (f_X3_of x w p0).1 = 0 then (0, (f_X3_of x w p0).2) else ((0 + 1), (-9000000000000000 : Int64))

abbrev RM_L_of : Room := { frames := 7, cells := 1, slots := 6, locals := 111 }
set_option maxRecDepth 100000 in
set_option maxHeartbeats 4000000 in
theorem c_L_of (l : Launch) (D : va_G) (q : Nat → ClassId) (sz : Nat) (h : Nat) (aw : Nat) (av : Nat) (kr : Nat → Nat) (kt : Nat → Nat) (x : XS) (w : WS) (v : WS) (r : RS) (t : TS) (p0 : Int32) (hstk : l.stackTraces = false) : Met l yL_of (Cond.codeWith yL_of cL_of 3 (some .long) [(0, 5, 6, 17)] :: ALL) RM_L_of (PX D q [.ref h, .int p0] (cKick h aw av kr kt q x w v r t) sz) (va_Ql (fun (rv : Int64) (u : Nat × (Unit)) => f_L_of x w p0 = (u.1, rv)) (fun u t9 => va_P D vwCl (cKick h aw av kr kt q x w v r t) t9.heap ∧ sz + u.1 ≤ t9.heap.size) (va_A (cKick h aw av kr kt q x w v r t) sz)) 1 6 (va_A (cKick h aw av kr kt q x w v r t) sz) := by
  refine en_hl (post := fun (rv : Int64) (u : Nat × (Unit)) => f_L_of x w p0 = (u.1, rv)) (C := fun (_ : Unit) => cKick h aw av kr kt q x w v r t) rfl (by decide +kernel) (Nat.le_of_ble_eq_true rfl) ?_
  intro p e s m args below meth c Q A H locs ls fx hSX hSZ0 htab hD0 hA hP hS hl hret
  have hx := fx.1
  have hb := fx.2.1
  have hg : s.heap.size + 0 ≤ H.size := hS.1
  have hl : lv_has ls 3 [(0, .ref h), (1, .int p0)] := hl
  have hD : ∀ (x9 : XS) (w9 : WS) (v9 : WS) (r9 : RS) (t9 : TS), va_D _ (cKick h aw av kr kt q x9 w9 v9 r9 t9) := fun _ _ _ _ _ => D_same ((fst_Kick _ _ _ _ _ _ _ _ _ _ _).trans (fst_Kick _ _ _ _ _ _ _ _ _ _ _).symm) hD0
  have ht : f_L_of x w p0 = f_L_of x w p0 := rfl
  refine lv_aload_n hx hb dL_of_0 rfl (lv_at hl 0 rfl) ?_
  refine lv_iload_n hx hb dL_of_1 rfl (lv_at hl 1 rfl) ?_
  refine kXg_l (xrun fx hSX (SZ.kept hSZ0 hS.2.1) (As := [.int p0]) (rest := []) (c_X3_of l D q H.size h aw av kr kt x w v r t p0 hstk) lk_L_59 ⟨Nat.le_of_ble_eq_true rfl, Nat.le_of_ble_eq_true rfl⟩ ⟨rfl, rfl⟩ hP (hD _ _ _ _ _) hS hA [0, 1, 2, 3, 4, 5, 6, 7, 8, 9, 10, 11, 12, 13] rfl rfl (ci := 3) rfl rfl rfl hl.1 rfl (Nat.le_of_ble_eq_true rfl) dL_of_2 ⟨Nat.le_of_ble_eq_true rfl, Nat.le_of_ble_eq_true rfl⟩) hP (hD _ _ _ _ _) hS hA hg [0, 1, 2, 3, 4, 5, 6, 7, 8, 9, 10, 11, 12, 13] rfl (fun _ => rfl) (fun k ce q9 H locs hp hP hS hg hce hcv hcl => ?_) (fun r1 _ H locs hw3 hP hS hg => ?_)
  · have hP : va_P D vwCl (cKick h aw av kr kt q x w v r t) H := hP
    obtain ⟨hk5, hor⟩ := hp
    subst hor
    have n4 : ¬ (f_X3_of x w p0).1 = 0 := by rw [hk5]; decide
    refine catchK (k := 2) fx hSX htab [] [] rfl (fun z hz => by simp at hz) (Or.inr (Or.inl rfl)) rfl ⟨by decide, by decide⟩ hce hcv hcl ?_
    refine lv_astore_n (lv' := [(2, .ref q9), (0, .ref h), (1, .int p0)]) hx hb dL_of_6 rfl hl (by decide) rfl (fun ls hl => ?_)
    refine lv_ldc2 hx hb fx.2.2.2.1 (fx.2.2.2.2.1 _ mn_54) dL_of_7 ?_
    exact hret (-9000000000000000 : Int64) ((0 + 1), ()) _ _ _ _ dL_of_10 (ht.trans (by simp only [f_L_of, if_neg n4])) hP hS hg
  · have hP : va_P D vwCl (cKick h aw av kr kt q x w v r t) H := hP
    exact hret r1 (0, ()) _ _ _ _ dL_of_5 (ht.trans (by first | (simp only [f_L_of, eq_self, if_true, hw3]; done) | (simp only [f_L_of, hw3]; simp only [eq_self, if_true]))) hP hS hg

/-! L_ofTest -/
def f_L_ofTest (t : TS) (p0 : Int32) (p1 : Int32) : Nat × Int32 :=
  if (f_X3_ofTest t p0 p1).1 = 0 then (0, (f_X3_ofTest t p0 p1).2) else (if (f_X3_ofTest t p0 p1).1 = 1 then ((0 + 1), (-2000000000 : Int32)) else ((0 + 1), (-2000000000 : Int32)))

abbrev RM_L_ofTest : Room := { frames := 7, cells := 1, slots := 6, locals := 112 }
set_option maxRecDepth 100000 in
set_option maxHeartbeats 4000000 in
theorem c_L_ofTest (l : Launch) (D : va_G) (q : Nat → ClassId) (sz : Nat) (h : Nat) (aw : Nat) (av : Nat) (kr : Nat → Nat) (kt : Nat → Nat) (x : XS) (w : WS) (v : WS) (r : RS) (t : TS) (p0 : Int32) (p1 : Int32) (hstk : l.stackTraces = false) : Met l yL_ofTest (Cond.codeWith yL_ofTest cL_ofTest 4 (some .int) [(0, 6, 7, 14), (0, 6, 11, 17)] :: ALL) RM_L_ofTest (PX D q [.ref h, .int p0, .int p1] (cKick h aw av kr kt q x w v r t) sz) (va_Qi (fun (rv : Int32) (u : Nat × (Unit)) => f_L_ofTest t p0 p1 = (u.1, rv)) (fun u t9 => va_P D vwCl (cKick h aw av kr kt q x w v r t) t9.heap ∧ sz + u.1 ≤ t9.heap.size) (va_A (cKick h aw av kr kt q x w v r t) sz)) 1 6 (va_A (cKick h aw av kr kt q x w v r t) sz) := by
  refine en_hi (post := fun (rv : Int32) (u : Nat × (Unit)) => f_L_ofTest t p0 p1 = (u.1, rv)) (C := fun (_ : Unit) => cKick h aw av kr kt q x w v r t) rfl (by decide +kernel) (Nat.le_of_ble_eq_true rfl) ?_
  intro p e s m args below meth c Q A H locs ls fx hSX hSZ0 htab hD0 hA hP hS hl hret
  have hx := fx.1
  have hb := fx.2.1
  have hg : s.heap.size + 0 ≤ H.size := hS.1
  have hl : lv_has ls 4 [(0, .ref h), (1, .int p0), (2, .int p1)] := hl
  have hD : ∀ (x9 : XS) (w9 : WS) (v9 : WS) (r9 : RS) (t9 : TS), va_D _ (cKick h aw av kr kt q x9 w9 v9 r9 t9) := fun _ _ _ _ _ => D_same ((fst_Kick _ _ _ _ _ _ _ _ _ _ _).trans (fst_Kick _ _ _ _ _ _ _ _ _ _ _).symm) hD0
  have ht : f_L_ofTest t p0 p1 = f_L_ofTest t p0 p1 := rfl
  refine lv_aload_n hx hb dL_ofTest_0 rfl (lv_at hl 0 rfl) ?_
  refine lv_iload_n hx hb dL_ofTest_1 rfl (lv_at hl 1 rfl) ?_
  refine lv_iload_n hx hb dL_ofTest_2 rfl (lv_at hl 2 rfl) ?_
  refine kXg_i (xrun fx hSX (SZ.kept hSZ0 hS.2.1) (As := [.int p0, .int p1]) (rest := []) (c_X3_ofTest l D q H.size h aw av kr kt x w v r t p0 p1 hstk) lk_L_65 ⟨Nat.le_of_ble_eq_true rfl, Nat.le_of_ble_eq_true rfl⟩ ⟨rfl, rfl⟩ hP (hD _ _ _ _ _) hS hA [0, 1, 2, 3, 4, 5, 6, 7, 8, 9, 10, 11, 12, 13] rfl rfl (ci := 3) rfl rfl rfl hl.1 rfl (Nat.le_of_ble_eq_true rfl) dL_ofTest_3 ⟨Nat.le_of_ble_eq_true rfl, Nat.le_of_ble_eq_true rfl⟩) hP (hD _ _ _ _ _) hS hA hg [0, 1, 2, 3, 4, 5, 6, 7, 8, 9, 10, 11, 12, 13] rfl (fun _ => rfl) (fun k ce q9 H locs hp hP hS hg hce hcv hcl => ?_) (fun r1 _ H locs hw3 hP hS hg => ?_)
  · have hP : va_P D vwCl (cKick h aw av kr kt q x w v r t) H := hP
    obtain ⟨hk5, hor⟩ := hp
    rcases hor with rfl | rfl
    · have n4 : ¬ (f_X3_ofTest t p0 p1).1 = 0 := by rw [hk5]; decide
      refine catchK (k := 1) fx hSX htab [] [(0, 6, 11, 17)] rfl (fun z hz => by simp at hz) (Or.inl rfl) rfl ⟨by decide, by decide⟩ hce hcv hcl ?_
      refine lv_astore_n (lv' := [(3, .ref q9), (0, .ref h), (1, .int p0), (2, .int p1)]) hx hb dL_ofTest_7 rfl hl (by decide) rfl (fun ls hl => ?_)
      refine lv_ldc hx hb fx.2.2.2.1 (fx.2.2.2.2.1 _ mn_5) dL_ofTest_8 ?_
      exact hret (-2000000000 : Int32) ((0 + 1), ()) _ _ _ _ dL_ofTest_10 (ht.trans (by simp only [f_L_ofTest, if_neg n4, if_pos hk5])) hP hS hg
    · have n4 : ¬ (f_X3_ofTest t p0 p1).1 = 0 := by rw [hk5]; decide
      have n4_1 : ¬ (f_X3_ofTest t p0 p1).1 = 1 := by rw [hk5]; decide
      refine catchK (k := 2) fx hSX htab [(0, 6, 7, 14)] [] rfl (fun z hz => by simp only [List.mem_cons, List.not_mem_nil, or_false] at hz; rcases hz with rfl; exact ⟨1, rfl, by decide, by decide⟩) (Or.inr (Or.inl rfl)) rfl ⟨by decide, by decide⟩ hce hcv hcl ?_
      refine lv_astore_n (lv' := [(3, .ref q9), (0, .ref h), (1, .int p0), (2, .int p1)]) hx hb dL_ofTest_11 rfl hl (by decide) rfl (fun ls hl => ?_)
      refine lv_ldc hx hb fx.2.2.2.1 (fx.2.2.2.2.1 _ mn_5) dL_ofTest_12 ?_
      exact hret (-2000000000 : Int32) ((0 + 1), ()) _ _ _ _ dL_ofTest_14 (ht.trans (by simp only [f_L_ofTest, if_neg n4, if_neg n4_1])) hP hS hg
  · have hP : va_P D vwCl (cKick h aw av kr kt q x w v r t) H := hP
    exact hret r1 (0, ()) _ _ _ _ dL_ofTest_6 (ht.trans (by first | (simp only [f_L_ofTest, eq_self, if_true, hw3]; done) | (simp only [f_L_ofTest, hw3]; simp only [eq_self, if_true]))) hP hS hg

/-! L_killWeight -/
def f_L_killWeight (w : WS) (r : RS) : Nat × Int32 :=
  if (f_X3_killWeight w r).1 = 0 then (0, (f_X3_killWeight w r).2) else ((0 + 1), (-2000000000 : Int32))

abbrev RM_L_killWeight : Room := { frames := 7, cells := 1, slots := 6, locals := 111 }
set_option maxRecDepth 100000 in
set_option maxHeartbeats 4000000 in
theorem c_L_killWeight (l : Launch) (D : va_G) (q : Nat → ClassId) (sz : Nat) (h : Nat) (aw : Nat) (av : Nat) (kr : Nat → Nat) (kt : Nat → Nat) (x : XS) (w : WS) (v : WS) (r : RS) (t : TS) (hstk : l.stackTraces = false) : Met l yL_killWeight (Cond.codeWith yL_killWeight cL_killWeight 2 (some .int) [(0, 4, 5, 19)] :: ALL) RM_L_killWeight (PX D q [.ref h] (cKick h aw av kr kt q x w v r t) sz) (va_Qi (fun (rv : Int32) (u : Nat × (Unit)) => f_L_killWeight w r = (u.1, rv)) (fun u t9 => va_P D vwCl (cKick h aw av kr kt q x w v r t) t9.heap ∧ sz + u.1 ≤ t9.heap.size) (va_A (cKick h aw av kr kt q x w v r t) sz)) 1 6 (va_A (cKick h aw av kr kt q x w v r t) sz) := by
  refine en_hi (post := fun (rv : Int32) (u : Nat × (Unit)) => f_L_killWeight w r = (u.1, rv)) (C := fun (_ : Unit) => cKick h aw av kr kt q x w v r t) rfl (by decide +kernel) (Nat.le_of_ble_eq_true rfl) ?_
  intro p e s m args below meth c Q A H locs ls fx hSX hSZ0 htab hD0 hA hP hS hl hret
  have hx := fx.1
  have hb := fx.2.1
  have hg : s.heap.size + 0 ≤ H.size := hS.1
  have hl : lv_has ls 2 [(0, .ref h)] := hl
  have hD : ∀ (x9 : XS) (w9 : WS) (v9 : WS) (r9 : RS) (t9 : TS), va_D _ (cKick h aw av kr kt q x9 w9 v9 r9 t9) := fun _ _ _ _ _ => D_same ((fst_Kick _ _ _ _ _ _ _ _ _ _ _).trans (fst_Kick _ _ _ _ _ _ _ _ _ _ _).symm) hD0
  have ht : f_L_killWeight w r = f_L_killWeight w r := rfl
  refine lv_aload_n hx hb dL_killWeight_0 rfl (lv_at hl 0 rfl) ?_
  refine kXg_i (xrun fx hSX (SZ.kept hSZ0 hS.2.1) (As := []) (rest := []) (c_X3_killWeight l D q H.size h aw av kr kt x w v r t hstk) lk_L_68 ⟨Nat.le_of_ble_eq_true rfl, Nat.le_of_ble_eq_true rfl⟩ ⟨rfl, rfl⟩ hP (hD _ _ _ _ _) hS hA [0, 1, 2, 3, 4, 5, 6, 7, 8, 9, 10, 11, 12, 13] rfl rfl (ci := 3) rfl rfl rfl hl.1 rfl (Nat.le_of_ble_eq_true rfl) dL_killWeight_1 ⟨Nat.le_of_ble_eq_true rfl, Nat.le_of_ble_eq_true rfl⟩) hP (hD _ _ _ _ _) hS hA hg [0, 1, 2, 3, 4, 5, 6, 7, 8, 9, 10, 11, 12, 13] rfl (fun _ => rfl) (fun k ce q9 H locs hp hP hS hg hce hcv hcl => ?_) (fun r1 _ H locs hw3 hP hS hg => ?_)
  · have hP : va_P D vwCl (cKick h aw av kr kt q x w v r t) H := hP
    obtain ⟨hk5, hor⟩ := hp
    subst hor
    have n4 : ¬ (f_X3_killWeight w r).1 = 0 := by rw [hk5]; decide
    refine catchK (k := 3) fx hSX htab [] [] rfl (fun z hz => by simp at hz) (Or.inr (Or.inr rfl)) rfl ⟨by decide, by decide⟩ hce hcv hcl ?_
    refine lv_astore_n (lv' := [(1, .ref q9), (0, .ref h)]) hx hb dL_killWeight_5 rfl hl (by decide) rfl (fun ls hl => ?_)
    refine lv_ldc hx hb fx.2.2.2.1 (fx.2.2.2.2.1 _ mn_5) dL_killWeight_6 ?_
    exact hret (-2000000000 : Int32) ((0 + 1), ()) _ _ _ _ dL_killWeight_8 (ht.trans (by simp only [f_L_killWeight, if_neg n4])) hP hS hg
  · have hP : va_P D vwCl (cKick h aw av kr kt q x w v r t) H := hP
    exact hret r1 (0, ()) _ _ _ _ dL_killWeight_4 (ht.trans (by first | (simp only [f_L_killWeight, eq_self, if_true, hw3]; done) | (simp only [f_L_killWeight, hw3]; simp only [eq_self, if_true]))) hP hS hg

/-! L_window -/
def f_L_window (N : Nat) (r : RS) (p0 : Int32) (p1 : Int32) (p2 : Int32) : Nat × Int32 :=
  if (f_X3_window N r p0 p1 p2).1 = 0 then (0, (f_X3_window N r p0 p1 p2).2) else ((0 + 1), (-2000000000 : Int32))

def ok_L_window (N : Nat) (r : RS) (p0 : Int32) (p1 : Int32) (p2 : Int32) : Prop :=
  (ok_X3_window N r p0 p1 p2) ∧ True

abbrev RM_L_window : Room := { frames := 7, cells := 1, slots := 6, locals := 115 }
set_option maxRecDepth 100000 in
set_option maxHeartbeats 4000000 in
theorem c_L_window (l : Launch) (D : va_G) (q : Nat → ClassId) (sz : Nat) (h : Nat) (aw : Nat) (av : Nat) (kr : Nat → Nat) (kt : Nat → Nat) (x : XS) (w : WS) (v : WS) (r : RS) (t : TS) (p0 : Int32) (p1 : Int32) (p2 : Int32) (N : Nat) (hok : ok_L_window N r p0 p1 p2) (hstk : l.stackTraces = false) : Met l yL_window (Cond.codeWith yL_window cL_window 5 (some .int) [(0, 7, 8, 17)] :: ALL) RM_L_window (PX D q [.ref h, .int p0, .int p1, .int p2] (cKick h aw av kr kt q x w v r t) sz) (va_Qi (fun (rv : Int32) (u : Nat × (Unit)) => f_L_window N r p0 p1 p2 = (u.1, rv)) (fun u t9 => va_P D vwCl (cKick h aw av kr kt q x w v r t) t9.heap ∧ sz + u.1 ≤ t9.heap.size) (va_A (cKick h aw av kr kt q x w v r t) sz)) 1 6 (va_A (cKick h aw av kr kt q x w v r t) sz) := by
  refine en_hi (post := fun (rv : Int32) (u : Nat × (Unit)) => f_L_window N r p0 p1 p2 = (u.1, rv)) (C := fun (_ : Unit) => cKick h aw av kr kt q x w v r t) rfl (by decide +kernel) (Nat.le_of_ble_eq_true rfl) ?_
  intro p e s m args below meth c Q A H locs ls fx hSX hSZ0 htab hD0 hA hP hS hl hret
  have hx := fx.1
  have hb := fx.2.1
  have hg : s.heap.size + 0 ≤ H.size := hS.1
  have hl : lv_has ls 5 [(0, .ref h), (1, .int p0), (2, .int p1), (3, .int p2)] := hl
  have hD : ∀ (x9 : XS) (w9 : WS) (v9 : WS) (r9 : RS) (t9 : TS), va_D _ (cKick h aw av kr kt q x9 w9 v9 r9 t9) := fun _ _ _ _ _ => D_same ((fst_Kick _ _ _ _ _ _ _ _ _ _ _).trans (fst_Kick _ _ _ _ _ _ _ _ _ _ _).symm) hD0
  have ht : f_L_window N r p0 p1 p2 = f_L_window N r p0 p1 p2 := rfl
  simp only [ok_L_window] at hok
  refine lv_aload_n hx hb dL_window_0 rfl (lv_at hl 0 rfl) ?_
  refine lv_iload_n hx hb dL_window_1 rfl (lv_at hl 1 rfl) ?_
  refine lv_iload_n hx hb dL_window_2 rfl (lv_at hl 2 rfl) ?_
  refine lv_iload_n hx hb dL_window_3 rfl (lv_at hl 3 rfl) ?_
  obtain ⟨hk1, hok⟩ := hok
  refine kXg_i (xrun fx hSX (SZ.kept hSZ0 hS.2.1) (As := [.int p0, .int p1, .int p2]) (rest := []) (c_X3_window l D q H.size h aw av kr kt x w v r t p0 p1 p2 N hk1 hstk) lk_L_71 ⟨Nat.le_of_ble_eq_true rfl, Nat.le_of_ble_eq_true rfl⟩ ⟨rfl, rfl⟩ hP (hD _ _ _ _ _) hS hA [0, 1, 2, 3, 4, 5, 6, 7, 8, 9, 10, 11, 12, 13] rfl rfl (ci := 3) rfl rfl rfl hl.1 rfl (Nat.le_of_ble_eq_true rfl) dL_window_4 ⟨Nat.le_of_ble_eq_true rfl, Nat.le_of_ble_eq_true rfl⟩) hP (hD _ _ _ _ _) hS hA hg [0, 1, 2, 3, 4, 5, 6, 7, 8, 9, 10, 11, 12, 13] rfl (fun _ => rfl) (fun k ce q9 H locs hp hP hS hg hce hcv hcl => ?_) (fun r2 _ H locs hw4 hP hS hg => ?_)
  · have hP : va_P D vwCl (cKick h aw av kr kt q x w v r t) H := hP
    obtain ⟨hk6, hor⟩ := hp
    subst hor
    have n5 : ¬ (f_X3_window N r p0 p1 p2).1 = 0 := by rw [hk6]; decide
    refine catchK (k := 2) fx hSX htab [] [] rfl (fun z hz => by simp at hz) (Or.inr (Or.inl rfl)) rfl ⟨by decide, by decide⟩ hce hcv hcl ?_
    refine lv_astore (lv' := [(4, .ref q9), (0, .ref h), (1, .int p0), (2, .int p1), (3, .int p2)]) hx hb dL_window_8 hl (by decide) rfl (fun ls hl => ?_)
    refine lv_ldc hx hb fx.2.2.2.1 (fx.2.2.2.2.1 _ mn_5) dL_window_10 ?_
    exact hret (-2000000000 : Int32) ((0 + 1), ()) _ _ _ _ dL_window_12 (ht.trans (by simp only [f_L_window, if_neg n5])) hP hS hg
  · have hP : va_P D vwCl (cKick h aw av kr kt q x w v r t) H := hP
    exact hret r2 (0, ()) _ _ _ _ dL_window_7 (ht.trans (by first | (simp only [f_L_window, eq_self, if_true, hw4]; done) | (simp only [f_L_window, hw4]; simp only [eq_self, if_true]))) hP hS hg

/-! L_casings -/
def f_L_casings (N : Nat) (r : RS) (p0 : Int32) : Nat × Int32 :=
  if (f_X3_casings N r p0).1 = 0 then (0, (f_X3_casings N r p0).2) else ((0 + 1), (-2000000000 : Int32))

def ok_L_casings (N : Nat) (r : RS) (p0 : Int32) : Prop :=
  (ok_X3_casings N r p0) ∧ True

abbrev RM_L_casings : Room := { frames := 7, cells := 1, slots := 6, locals := 111 }
set_option maxRecDepth 100000 in
set_option maxHeartbeats 4000000 in
theorem c_L_casings (l : Launch) (D : va_G) (q : Nat → ClassId) (sz : Nat) (h : Nat) (aw : Nat) (av : Nat) (kr : Nat → Nat) (kt : Nat → Nat) (x : XS) (w : WS) (v : WS) (r : RS) (t : TS) (p0 : Int32) (N : Nat) (hok : ok_L_casings N r p0) (hstk : l.stackTraces = false) : Met l yL_casings (Cond.codeWith yL_casings cL_casings 3 (some .int) [(0, 5, 6, 17)] :: ALL) RM_L_casings (PX D q [.ref h, .int p0] (cKick h aw av kr kt q x w v r t) sz) (va_Qi (fun (rv : Int32) (u : Nat × (Unit)) => f_L_casings N r p0 = (u.1, rv)) (fun u t9 => va_P D vwCl (cKick h aw av kr kt q x w v r t) t9.heap ∧ sz + u.1 ≤ t9.heap.size) (va_A (cKick h aw av kr kt q x w v r t) sz)) 1 6 (va_A (cKick h aw av kr kt q x w v r t) sz) := by
  refine en_hi (post := fun (rv : Int32) (u : Nat × (Unit)) => f_L_casings N r p0 = (u.1, rv)) (C := fun (_ : Unit) => cKick h aw av kr kt q x w v r t) rfl (by decide +kernel) (Nat.le_of_ble_eq_true rfl) ?_
  intro p e s m args below meth c Q A H locs ls fx hSX hSZ0 htab hD0 hA hP hS hl hret
  have hx := fx.1
  have hb := fx.2.1
  have hg : s.heap.size + 0 ≤ H.size := hS.1
  have hl : lv_has ls 3 [(0, .ref h), (1, .int p0)] := hl
  have hD : ∀ (x9 : XS) (w9 : WS) (v9 : WS) (r9 : RS) (t9 : TS), va_D _ (cKick h aw av kr kt q x9 w9 v9 r9 t9) := fun _ _ _ _ _ => D_same ((fst_Kick _ _ _ _ _ _ _ _ _ _ _).trans (fst_Kick _ _ _ _ _ _ _ _ _ _ _).symm) hD0
  have ht : f_L_casings N r p0 = f_L_casings N r p0 := rfl
  simp only [ok_L_casings] at hok
  refine lv_aload_n hx hb dL_casings_0 rfl (lv_at hl 0 rfl) ?_
  refine lv_iload_n hx hb dL_casings_1 rfl (lv_at hl 1 rfl) ?_
  obtain ⟨hk1, hok⟩ := hok
  refine kXg_i (xrun fx hSX (SZ.kept hSZ0 hS.2.1) (As := [.int p0]) (rest := []) (c_X3_casings l D q H.size h aw av kr kt x w v r t p0 N hk1 hstk) lk_L_75 ⟨Nat.le_of_ble_eq_true rfl, Nat.le_of_ble_eq_true rfl⟩ ⟨rfl, rfl⟩ hP (hD _ _ _ _ _) hS hA [0, 1, 2, 3, 4, 5, 6, 7, 8, 9, 10, 11, 12, 13] rfl rfl (ci := 3) rfl rfl rfl hl.1 rfl (Nat.le_of_ble_eq_true rfl) dL_casings_2 ⟨Nat.le_of_ble_eq_true rfl, Nat.le_of_ble_eq_true rfl⟩) hP (hD _ _ _ _ _) hS hA hg [0, 1, 2, 3, 4, 5, 6, 7, 8, 9, 10, 11, 12, 13] rfl (fun _ => rfl) (fun k ce q9 H locs hp hP hS hg hce hcv hcl => ?_) (fun r2 _ H locs hw4 hP hS hg => ?_)
  · have hP : va_P D vwCl (cKick h aw av kr kt q x w v r t) H := hP
    obtain ⟨hk6, hor⟩ := hp
    subst hor
    have n5 : ¬ (f_X3_casings N r p0).1 = 0 := by rw [hk6]; decide
    refine catchK (k := 2) fx hSX htab [] [] rfl (fun z hz => by simp at hz) (Or.inr (Or.inl rfl)) rfl ⟨by decide, by decide⟩ hce hcv hcl ?_
    refine lv_astore_n (lv' := [(2, .ref q9), (0, .ref h), (1, .int p0)]) hx hb dL_casings_6 rfl hl (by decide) rfl (fun ls hl => ?_)
    refine lv_ldc hx hb fx.2.2.2.1 (fx.2.2.2.2.1 _ mn_5) dL_casings_7 ?_
    exact hret (-2000000000 : Int32) ((0 + 1), ()) _ _ _ _ dL_casings_9 (ht.trans (by simp only [f_L_casings, if_neg n5])) hP hS hg
  · have hP : va_P D vwCl (cKick h aw av kr kt q x w v r t) H := hP
    exact hret r2 (0, ()) _ _ _ _ dL_casings_5 (ht.trans (by first | (simp only [f_L_casings, eq_self, if_true, hw4]; done) | (simp only [f_L_casings, hw4]; simp only [eq_self, if_true]))) hP hS hg

/-! L_casingsAnew -/
def f_L_casingsAnew (N : Nat) (r : RS) (p0 : Int32) : Nat × Int32 × RS :=
  if (f_X3_casingsAnew N r p0).1 = 0 then (0, (f_X3_casingsAnew N r p0).2.1, ((f_X3_casingsAnew N r p0).2.2)) else ((0 + 1), (-2000000000 : Int32), r)

def ok_L_casingsAnew (N : Nat) (r : RS) (p0 : Int32) : Prop :=
  (ok_X3_casingsAnew N r p0) ∧ True

abbrev RM_L_casingsAnew : Room := { frames := 7, cells := 1, slots := 6, locals := 111 }
set_option maxRecDepth 100000 in
set_option maxHeartbeats 4000000 in
theorem c_L_casingsAnew (l : Launch) (D : va_G) (q : Nat → ClassId) (sz : Nat) (h : Nat) (aw : Nat) (av : Nat) (kr : Nat → Nat) (kt : Nat → Nat) (x : XS) (w : WS) (v : WS) (r : RS) (t : TS) (p0 : Int32) (N : Nat) (hok : ok_L_casingsAnew N r p0) (hstk : l.stackTraces = false) : Met l yL_casingsAnew (Cond.codeWith yL_casingsAnew cL_casingsAnew 3 (some .int) [(0, 5, 6, 17)] :: ALL) RM_L_casingsAnew (PX D q [.ref h, .int p0] (cKick h aw av kr kt q x w v r t) sz) (va_Qi (fun (rv : Int32) (u : Nat × (RS)) => f_L_casingsAnew N r p0 = (u.1, rv, u.2)) (fun u t9 => va_P D vwCl (cKick h aw av kr kt q x w v u.2 t) t9.heap ∧ sz + u.1 ≤ t9.heap.size) (va_A (cKick h aw av kr kt q x w v r t) sz)) 1 6 (va_A (cKick h aw av kr kt q x w v r t) sz) := by
  refine en_hi (post := fun (rv : Int32) (u : Nat × (RS)) => f_L_casingsAnew N r p0 = (u.1, rv, u.2)) (C := fun (u : RS) => cKick h aw av kr kt q x w v u t) rfl (by decide +kernel) (Nat.le_of_ble_eq_true rfl) ?_
  intro p e s m args below meth c Q A H locs ls fx hSX hSZ0 htab hD0 hA hP hS hl hret
  have hx := fx.1
  have hb := fx.2.1
  have hg : s.heap.size + 0 ≤ H.size := hS.1
  have hl : lv_has ls 3 [(0, .ref h), (1, .int p0)] := hl
  have hD : ∀ (x9 : XS) (w9 : WS) (v9 : WS) (r9 : RS) (t9 : TS), va_D _ (cKick h aw av kr kt q x9 w9 v9 r9 t9) := fun _ _ _ _ _ => D_same ((fst_Kick _ _ _ _ _ _ _ _ _ _ _).trans (fst_Kick _ _ _ _ _ _ _ _ _ _ _).symm) hD0
  have ht : f_L_casingsAnew N r p0 = f_L_casingsAnew N r p0 := rfl
  simp only [ok_L_casingsAnew] at hok
  refine lv_aload_n hx hb dL_casingsAnew_0 rfl (lv_at hl 0 rfl) ?_
  refine lv_iload_n hx hb dL_casingsAnew_1 rfl (lv_at hl 1 rfl) ?_
  obtain ⟨hk1, hok⟩ := hok
  refine kXg_i (xrun fx hSX (SZ.kept hSZ0 hS.2.1) (As := [.int p0]) (rest := []) (c_X3_casingsAnew l D q H.size h aw av kr kt x w v r t p0 N hk1 hstk) lk_L_78 ⟨Nat.le_of_ble_eq_true rfl, Nat.le_of_ble_eq_true rfl⟩ ⟨rfl, rfl⟩ hP (hD _ _ _ _ _) hS hA [0, 1, 2, 3, 4, 5, 6, 7, 8, 9, 10, 11, 12, 13] rfl rfl (ci := 3) rfl rfl rfl hl.1 rfl (Nat.le_of_ble_eq_true rfl) dL_casingsAnew_2 ⟨Nat.le_of_ble_eq_true rfl, Nat.le_of_ble_eq_true rfl⟩) hP (hD _ _ _ _ _) hS hA hg [0, 1, 2, 3, 4, 5, 6, 7, 8, 9, 10, 11, 12, 13] rfl (fun _ => rfl) (fun k ce q9 H locs hp hP hS hg hce hcv hcl => ?_) (fun r2 u3 H locs hw4 hP hS hg => ?_)
  · have hP : va_P D vwCl (cKick h aw av kr kt q x w v r t) H := hP
    obtain ⟨hk6, hor⟩ := hp
    subst hor
    have n5 : ¬ (f_X3_casingsAnew N r p0).1 = 0 := by rw [hk6]; decide
    refine catchK (k := 2) fx hSX htab [] [] rfl (fun z hz => by simp at hz) (Or.inr (Or.inl rfl)) rfl ⟨by decide, by decide⟩ hce hcv hcl ?_
    refine lv_astore_n (lv' := [(2, .ref q9), (0, .ref h), (1, .int p0)]) hx hb dL_casingsAnew_6 rfl hl (by decide) rfl (fun ls hl => ?_)
    refine lv_ldc hx hb fx.2.2.2.1 (fx.2.2.2.2.1 _ mn_5) dL_casingsAnew_7 ?_
    exact hret (-2000000000 : Int32) ((0 + 1), r) _ _ _ _ dL_casingsAnew_9 (ht.trans (by simp only [f_L_casingsAnew, if_neg n5])) hP hS hg
  · have hP : va_P D vwCl (cKick h aw av kr kt q x w v u3 t) H := hP
    exact hret r2 (0, u3) _ _ _ _ dL_casingsAnew_5 (ht.trans (by first | (simp only [f_L_casingsAnew, eq_self, if_true, hw4]; done) | (simp only [f_L_casingsAnew, hw4]; simp only [eq_self, if_true]))) hP hS hg

/-! L_equivalent -/
def f_L_equivalent (w : WS) : Nat × Int32 :=
  if (f_X3_equivalent w).1 = 0 then (0, FP.f2i (FP.fmul (1148846080 : UInt32) (f_X3_equivalent w).2)) else ((0 + 1), (-2000000000 : Int32))

def ok_L_equivalent (w : WS) : Prop :=
  (ok_X3_equivalent w) ∧ ((f_X3_equivalent w).1 = 0 → ((vf_n32 (FP.fmul (1148846080 : UInt32) (f_X3_equivalent w).2)) ∧ True))

abbrev RM_L_equivalent : Room := { frames := 7, cells := 1, slots := 6, locals := 111 }
set_option maxRecDepth 100000 in
set_option maxHeartbeats 4000000 in
theorem c_L_equivalent (l : Launch) (D : va_G) (q : Nat → ClassId) (sz : Nat) (h : Nat) (aw : Nat) (av : Nat) (kr : Nat → Nat) (kt : Nat → Nat) (x : XS) (w : WS) (v : WS) (r : RS) (t : TS) (hok : ok_L_equivalent w) (hstk : l.stackTraces = false) : Met l yL_equivalent (Cond.codeWith yL_equivalent cL_equivalent 2 (some .int) [(0, 8, 9, 19)] :: ALL) RM_L_equivalent (PX D q [.ref h] (cKick h aw av kr kt q x w v r t) sz) (va_Qi (fun (rv : Int32) (u : Nat × (Unit)) => f_L_equivalent w = (u.1, rv)) (fun u t9 => va_P D vwCl (cKick h aw av kr kt q x w v r t) t9.heap ∧ sz + u.1 ≤ t9.heap.size) (va_A (cKick h aw av kr kt q x w v r t) sz)) 1 6 (va_A (cKick h aw av kr kt q x w v r t) sz) := by
  refine en_hi (post := fun (rv : Int32) (u : Nat × (Unit)) => f_L_equivalent w = (u.1, rv)) (C := fun (_ : Unit) => cKick h aw av kr kt q x w v r t) rfl (by decide +kernel) (Nat.le_of_ble_eq_true rfl) ?_
  intro p e s m args below meth c Q A H locs ls fx hSX hSZ0 htab hD0 hA hP hS hl hret
  have hx := fx.1
  have hb := fx.2.1
  have hg : s.heap.size + 0 ≤ H.size := hS.1
  have hl : lv_has ls 2 [(0, .ref h)] := hl
  have hD : ∀ (x9 : XS) (w9 : WS) (v9 : WS) (r9 : RS) (t9 : TS), va_D _ (cKick h aw av kr kt q x9 w9 v9 r9 t9) := fun _ _ _ _ _ => D_same ((fst_Kick _ _ _ _ _ _ _ _ _ _ _).trans (fst_Kick _ _ _ _ _ _ _ _ _ _ _).symm) hD0
  have ht : f_L_equivalent w = f_L_equivalent w := rfl
  simp only [ok_L_equivalent] at hok
  refine lv_ldcf hx hb fx.2.2.2.1 (fx.2.2.2.2.1 _ mn_75) dL_equivalent_0 ?_
  refine lv_aload_n hx hb dL_equivalent_2 rfl (lv_at hl 0 rfl) ?_
  obtain ⟨hk1, hok⟩ := hok
  refine kXg_f (xrun fx hSX (SZ.kept hSZ0 hS.2.1) (As := []) (rest := [.float (1148846080 : UInt32)]) (c_X3_equivalent l D q H.size h aw av kr kt x w v r t hk1 hstk) lk_L_82 ⟨Nat.le_of_ble_eq_true rfl, Nat.le_of_ble_eq_true rfl⟩ ⟨rfl, rfl⟩ hP (hD _ _ _ _ _) hS hA [0, 1, 2, 3, 4, 5, 6, 7, 8, 9, 10, 11, 12, 13] rfl rfl (ci := 3) rfl rfl rfl hl.1 rfl (Nat.le_of_ble_eq_true rfl) dL_equivalent_3 ⟨Nat.le_of_ble_eq_true rfl, Nat.le_of_ble_eq_true rfl⟩) hP (hD _ _ _ _ _) hS hA hg [0, 1, 2, 3, 4, 5, 6, 7, 8, 9, 10, 11, 12, 13] rfl (fun _ => rfl) (fun k ce q9 H locs hp hP hS hg hce hcv hcl => ?_) (fun r2 _ H locs hw4 hP hS hg => ?_)
  · have hP : va_P D vwCl (cKick h aw av kr kt q x w v r t) H := hP
    obtain ⟨hk7, hor⟩ := hp
    subst hor
    have n6 : ¬ (f_X3_equivalent w).1 = 0 := by rw [hk7]; decide
    refine catchK (k := 3) fx hSX htab [] [] rfl (fun z hz => by simp at hz) (Or.inr (Or.inr rfl)) rfl ⟨by decide, by decide⟩ hce hcv hcl ?_
    refine lv_astore_n (lv' := [(1, .ref q9), (0, .ref h)]) hx hb dL_equivalent_9 rfl hl (by decide) rfl (fun ls hl => ?_)
    refine lv_ldc hx hb fx.2.2.2.1 (fx.2.2.2.2.1 _ mn_5) dL_equivalent_10 ?_
    exact hret (-2000000000 : Int32) ((0 + 1), ()) _ _ _ _ dL_equivalent_12 (ht.trans (by simp only [f_L_equivalent, if_neg n6])) hP hS hg
  · have hP : va_P D vwCl (cKick h aw av kr kt q x w v r t) H := hP
    have hok := hok (by rw [hw4])
    try simp only [hw4] at hok
    obtain ⟨hf5, hok⟩ := hok
    refine lv_fmul hx hb dL_equivalent_6 hf5 ?_
    refine lv_f2i hx hb dL_equivalent_7 ?_
    exact hret (FP.f2i (FP.fmul (1148846080 : UInt32) r2)) (0, ()) _ _ _ _ dL_equivalent_8 (ht.trans (by first | (simp only [f_L_equivalent, eq_self, if_true, hw4]; done) | (simp only [f_L_equivalent, hw4]; simp only [eq_self, if_true]))) hP hS hg

/-! L_ahead -/
def f_L_ahead (N : Nat) (w : WS) (v : WS) (r : RS) (p0 : Int32) : Nat × Int32 × WS :=
  if (f_X3_ahead N w v r p0).1 = 0 then (0, (f_X3_ahead N w v r p0).2.1, ((f_X3_ahead N w v r p0).2.2)) else ((0 + 1), (-2000000000 : Int32), v)

def ok_L_ahead (N : Nat) (w : WS) (v : WS) (r : RS) (p0 : Int32) : Prop :=
  (ok_X3_ahead N w v r p0) ∧ True

abbrev RM_L_ahead : Room := { frames := 7, cells := 1, slots := 6, locals := 152 }
set_option maxRecDepth 100000 in
set_option maxHeartbeats 4000000 in
theorem c_L_ahead (l : Launch) (D : va_G) (q : Nat → ClassId) (sz : Nat) (h : Nat) (aw : Nat) (av : Nat) (kr : Nat → Nat) (kt : Nat → Nat) (x : XS) (w : WS) (v : WS) (r : RS) (t : TS) (p0 : Int32) (N : Nat) (hok : ok_L_ahead N w v r p0) (hstk : l.stackTraces = false) : Met l yL_ahead (Cond.codeWith yL_ahead cL_ahead 3 (some .int) [(0, 5, 6, 17)] :: ALL) RM_L_ahead (PX D q [.ref h, .int p0] (cKick h aw av kr kt q x w v r t) sz) (va_Qi (fun (rv : Int32) (u : Nat × (WS)) => f_L_ahead N w v r p0 = (u.1, rv, u.2)) (fun u t9 => va_P D vwCl (cKick h aw av kr kt q x w u.2 r t) t9.heap ∧ sz + u.1 ≤ t9.heap.size) (va_A (cKick h aw av kr kt q x w v r t) sz)) 1 6 (va_A (cKick h aw av kr kt q x w v r t) sz) := by
  refine en_hi (post := fun (rv : Int32) (u : Nat × (WS)) => f_L_ahead N w v r p0 = (u.1, rv, u.2)) (C := fun (u : WS) => cKick h aw av kr kt q x w u r t) rfl (by decide +kernel) (Nat.le_of_ble_eq_true rfl) ?_
  intro p e s m args below meth c Q A H locs ls fx hSX hSZ0 htab hD0 hA hP hS hl hret
  have hx := fx.1
  have hb := fx.2.1
  have hg : s.heap.size + 0 ≤ H.size := hS.1
  have hl : lv_has ls 3 [(0, .ref h), (1, .int p0)] := hl
  have hD : ∀ (x9 : XS) (w9 : WS) (v9 : WS) (r9 : RS) (t9 : TS), va_D _ (cKick h aw av kr kt q x9 w9 v9 r9 t9) := fun _ _ _ _ _ => D_same ((fst_Kick _ _ _ _ _ _ _ _ _ _ _).trans (fst_Kick _ _ _ _ _ _ _ _ _ _ _).symm) hD0
  have ht : f_L_ahead N w v r p0 = f_L_ahead N w v r p0 := rfl
  simp only [ok_L_ahead] at hok
  refine lv_aload_n hx hb dL_ahead_0 rfl (lv_at hl 0 rfl) ?_
  refine lv_iload_n hx hb dL_ahead_1 rfl (lv_at hl 1 rfl) ?_
  obtain ⟨hk1, hok⟩ := hok
  refine kXg_i (xrun fx hSX (SZ.kept hSZ0 hS.2.1) (As := [.int p0]) (rest := []) (c_X3_ahead l D q H.size h aw av kr kt x w v r t p0 N hk1 hstk) lk_L_86 ⟨Nat.le_of_ble_eq_true rfl, Nat.le_of_ble_eq_true rfl⟩ ⟨rfl, rfl⟩ hP (hD _ _ _ _ _) hS hA [0, 1, 2, 3, 4, 5, 6, 7, 8, 9, 10, 11, 12, 13] rfl rfl (ci := 3) rfl rfl rfl hl.1 rfl (Nat.le_of_ble_eq_true rfl) dL_ahead_2 ⟨Nat.le_of_ble_eq_true rfl, Nat.le_of_ble_eq_true rfl⟩) hP (hD _ _ _ _ _) hS hA hg [0, 1, 2, 3, 4, 5, 6, 7, 8, 9, 10, 11, 12, 13] rfl (fun _ => rfl) (fun k ce q9 H locs hp hP hS hg hce hcv hcl => ?_) (fun r2 u3 H locs hw4 hP hS hg => ?_)
  · have hP : va_P D vwCl (cKick h aw av kr kt q x w v r t) H := hP
    obtain ⟨hk6, hor⟩ := hp
    subst hor
    have n5 : ¬ (f_X3_ahead N w v r p0).1 = 0 := by rw [hk6]; decide
    refine catchK (k := 2) fx hSX htab [] [] rfl (fun z hz => by simp at hz) (Or.inr (Or.inl rfl)) rfl ⟨by decide, by decide⟩ hce hcv hcl ?_
    refine lv_astore_n (lv' := [(2, .ref q9), (0, .ref h), (1, .int p0)]) hx hb dL_ahead_6 rfl hl (by decide) rfl (fun ls hl => ?_)
    refine lv_ldc hx hb fx.2.2.2.1 (fx.2.2.2.2.1 _ mn_5) dL_ahead_7 ?_
    exact hret (-2000000000 : Int32) ((0 + 1), v) _ _ _ _ dL_ahead_9 (ht.trans (by simp only [f_L_ahead, if_neg n5])) hP hS hg
  · have hP : va_P D vwCl (cKick h aw av kr kt q x w u3 r t) H := hP
    exact hret r2 (0, u3) _ _ _ _ dL_ahead_5 (ht.trans (by first | (simp only [f_L_ahead, eq_self, if_true, hw4]; done) | (simp only [f_L_ahead, hw4]; simp only [eq_self, if_true]))) hP hS hg

