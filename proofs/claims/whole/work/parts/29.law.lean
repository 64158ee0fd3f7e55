theorem mn_27 : Cond.methodLink RL 88 yL_layer ∈ ALL := ALL_i (List.mem_append_right _ (List.mem_append_left _ (List.mem_of_getElem? (i := 236) (by decide +kernel)))) (by decide +kernel)
theorem mn_28 : Cond.static yL_layer ∈ ALL := ALL_i (List.mem_append_right _ (List.mem_append_left _ (List.mem_of_getElem? (i := 237) (by decide +kernel)))) (by decide +kernel)
theorem mn_29 : Cond.initialized RL ∈ ALL := ALL_i (List.mem_append_right _ (List.mem_append_left _ (List.mem_of_getElem? (i := 0) (by decide +kernel)))) (by decide +kernel)
theorem mn_30 : Cond.codeWith yL_layer cL_layer 7 (some .int) [(0, 11, 14, 13), (0, 11, 18, 15), (0, 11, 22, 17)] ∈ ALL := ALL_i (List.mem_append_right _ (List.mem_append_left _ (List.mem_of_getElem? (i := 238) (by decide +kernel)))) (by decide +kernel)
theorem mn_31 : Cond.methodLink RL 93 yX4_layer ∈ ALL := ALL_i (List.mem_append_right _ (List.mem_append_right _ (List.mem_append_right _ (List.mem_append_right _ (List.mem_of_getElem? (i := 4) (by decide +kernel)))))) (by decide +kernel)
theorem mn_32 : Cond.instanceMethod yX4_layer ∈ ALL := ALL_i (List.mem_append_right _ (List.mem_append_right _ (List.mem_append_right _ (List.mem_append_right _ (List.mem_of_getElem? (i := 5) (by decide +kernel)))))) (by decide +kernel)
theorem mn_33 : Cond.selects RX4 yX4_layer yX4_layer ∈ ALL := ALL_i (List.mem_append_right _ (List.mem_append_right _ (List.mem_append_right _ (List.mem_append_right _ (List.mem_of_getElem? (i := 6) (by decide +kernel)))))) (by decide +kernel)
theorem mn_34 : Cond.code yX4_layer cX4_layer 8 none ∈ ALL := ALL_i (List.mem_append_right _ (List.mem_append_right _ (List.mem_append_right _ (List.mem_append_right _ (List.mem_of_getElem? (i := 7) (by decide +kernel)))))) (by decide +kernel)
theorem mn_35 : Cond.methodLink RL 94 yX4_thrown ∈ ALL := ALL_i (List.mem_append_right _ (List.mem_append_right _ (List.mem_append_right _ (List.mem_append_right _ (List.mem_of_getElem? (i := 0) (by decide +kernel)))))) (by decide +kernel)
theorem mn_36 : Cond.instanceMethod yX4_thrown ∈ ALL := ALL_i (List.mem_append_right _ (List.mem_append_right _ (List.mem_append_right _ (List.mem_append_right _ (List.mem_of_getElem? (i := 1) (by decide +kernel)))))) (by decide +kernel)
theorem mn_37 : Cond.selects RX4 yX4_thrown yX4_thrown ∈ ALL := ALL_i (List.mem_append_right _ (List.mem_append_right _ (List.mem_append_right _ (List.mem_append_right _ (List.mem_of_getElem? (i := 2) (by decide +kernel)))))) (by decide +kernel)
theorem mn_38 : Cond.code yX4_thrown cX4_thrown 1 (some .int) ∈ ALL := ALL_i (List.mem_append_right _ (List.mem_append_right _ (List.mem_append_right _ (List.mem_append_right _ (List.mem_of_getElem? (i := 3) (by decide +kernel)))))) (by decide +kernel)
theorem mn_39 : Cond.methodLink RL 97 yL_mud ∈ ALL := ALL_i (List.mem_append_right _ (List.mem_append_right _ (List.mem_append_left _ (List.mem_of_getElem? (i := 116) (by decide +kernel))))) (by decide +kernel)
theorem mn_40 : Cond.static yL_mud ∈ ALL := ALL_i (List.mem_append_right _ (List.mem_append_right _ (List.mem_append_left _ (List.mem_of_getElem? (i := 117) (by decide +kernel))))) (by decide +kernel)
theorem mn_41 : Cond.codeWith yL_mud cL_mud 4 (some .int) [(0, 9, 12, 15), (0, 9, 15, 17)] ∈ ALL := ALL_i (List.mem_append_right _ (List.mem_append_right _ (List.mem_append_left _ (List.mem_of_getElem? (i := 118) (by decide +kernel))))) (by decide +kernel)
theorem mn_42 : Cond.methodLink RL 100 yX4_mud ∈ ALL := ALL_i (List.mem_append_right _ (List.mem_append_right _ (List.mem_append_right _ (List.mem_append_right _ (List.mem_of_getElem? (i := 15) (by decide +kernel)))))) (by decide +kernel)
theorem mn_43 : Cond.instanceMethod yX4_mud ∈ ALL := ALL_i (List.mem_append_right _ (List.mem_append_right _ (List.mem_append_right _ (List.mem_append_right _ (List.mem_of_getElem? (i := 16) (by decide +kernel)))))) (by decide +kernel)
theorem mn_44 : Cond.selects RX4 yX4_mud yX4_mud ∈ ALL := ALL_i (List.mem_append_right _ (List.mem_append_right _ (List.mem_append_right _ (List.mem_append_right _ (List.mem_of_getElem? (i := 17) (by decide +kernel)))))) (by decide +kernel)
theorem mn_45 : Cond.code yX4_mud cX4_mud 4 (some .int) ∈ ALL := ALL_i (List.mem_append_right _ (List.mem_append_right _ (List.mem_append_right _ (List.mem_append_right _ (List.mem_of_getElem? (i := 18) (by decide +kernel)))))) (by decide +kernel)
theorem mn_46 : Cond.methodLink RL 101 yL_drill ∈ ALL := ALL_i (List.mem_append_right _ (List.mem_append_right _ (List.mem_append_left _ (List.mem_of_getElem? (i := 125) (by decide +kernel))))) (by decide +kernel)
theorem mn_47 : Cond.static yL_drill ∈ ALL := ALL_i (List.mem_append_right _ (List.mem_append_right _ (List.mem_append_left _ (List.mem_of_getElem? (i := 126) (by decide +kernel))))) (by decide +kernel)
theorem mn_48 : Cond.codeWith yL_drill cL_drill 4 (some .int) [(0, 9, 12, 15), (0, 9, 15, 17)] ∈ ALL := ALL_i (List.mem_append_right _ (List.mem_append_right _ (List.mem_append_left _ (List.mem_of_getElem? (i := 127) (by decide +kernel))))) (by decide +kernel)
theorem mn_49 : Cond.methodLink RL 103 yX4_drill ∈ ALL := ALL_i (List.mem_append_right _ (List.mem_append_right _ (List.mem_append_right _ (List.mem_append_right _ (List.mem_of_getElem? (i := 19) (by decide +kernel)))))) (by decide +kernel)
theorem mn_50 : Cond.instanceMethod yX4_drill ∈ ALL := ALL_i (List.mem_append_right _ (List.mem_append_right _ (List.mem_append_right _ (List.mem_append_right _ (List.mem_of_getElem? (i := 20) (by decide +kernel)))))) (by decide +kernel)
theorem mn_51 : Cond.selects RX4 yX4_drill yX4_drill ∈ ALL := ALL_i (List.mem_append_right _ (List.mem_append_right _ (List.mem_append_right _ (List.mem_append_right _ (List.mem_of_getElem? (i := 21) (by decide +kernel)))))) (by decide +kernel)
theorem mn_52 : Cond.code yX4_drill cX4_drill 5 (some .int) ∈ ALL := ALL_i (List.mem_append_right _ (List.mem_append_right _ (List.mem_append_right _ (List.mem_append_right _ (List.mem_of_getElem? (i := 22) (by decide +kernel)))))) (by decide +kernel)
theorem mn_53 : Cond.methodLink RL 104 yL_pass ∈ ALL := ALL_i (List.mem_append_right _ (List.mem_append_right _ (List.mem_append_left _ (List.mem_of_getElem? (i := 196) (by decide +kernel))))) (by decide +kernel)
theorem mn_54 : Cond.static yL_pass ∈ ALL := ALL_i (List.mem_append_right _ (List.mem_append_right _ (List.mem_append_left _ (List.mem_of_getElem? (i := 197) (by decide +kernel))))) (by decide +kernel)
theorem mn_55 : Cond.codeWith yL_pass cL_pass 4 (some .int) [(0, 9, 12, 15), (0, 9, 15, 17)] ∈ ALL := ALL_i (List.mem_append_right _ (List.mem_append_right _ (List.mem_append_left _ (List.mem_of_getElem? (i := 198) (by decide +kernel))))) (by decide +kernel)
theorem mn_56 : Cond.methodLink RL 106 yX4_pass ∈ ALL := ALL_i (List.mem_append_right _ (List.mem_append_right _ (List.mem_append_right _ (List.mem_append_right _ (List.mem_of_getElem? (i := 86) (by decide +kernel)))))) (by decide +kernel)
theorem mn_57 : Cond.instanceMethod yX4_pass ∈ ALL := ALL_i (List.mem_append_right _ (List.mem_append_right _ (List.mem_append_right _ (List.mem_append_right _ (List.mem_of_getElem? (i := 87) (by decide +kernel)))))) (by decide +kernel)
theorem mn_58 : Cond.selects RX4 yX4_pass yX4_pass ∈ ALL := ALL_i (List.mem_append_right _ (List.mem_append_right _ (List.mem_append_right _ (List.mem_append_right _ (List.mem_of_getElem? (i := 88) (by decide +kernel)))))) (by decide +kernel)
theorem mn_59 : Cond.code yX4_pass cX4_pass 4 (some .int) ∈ ALL := ALL_i (List.mem_append_right _ (List.mem_append_right _ (List.mem_append_right _ (List.mem_append_right _ (List.mem_of_getElem? (i := 89) (by decide +kernel)))))) (by decide +kernel)
theorem mn_60 : Cond.methodLink RL 107 yL_close ∈ ALL := ALL_i (List.mem_append_right _ (List.mem_append_right _ (List.mem_append_left _ (List.mem_of_getElem? (i := 210) (by decide +kernel))))) (by decide +kernel)
theorem mn_61 : Cond.static yL_close ∈ ALL := ALL_i (List.mem_append_right _ (List.mem_append_right _ (List.mem_append_left _ (List.mem_of_getElem? (i := 211) (by decide +kernel))))) (by decide +kernel)
theorem mn_62 : Cond.codeWith yL_close cL_close 2 (some .int) [(0, 4, 7, 17)] ∈ ALL := ALL_i (List.mem_append_right _ (List.mem_append_right _ (List.mem_append_left _ (List.mem_of_getElem? (i := 212) (by decide +kernel))))) (by decide +kernel)
theorem mn_63 : Cond.methodLink RL 110 yX4_close ∈ ALL := ALL_i (List.mem_append_right _ (List.mem_append_right _ (List.mem_append_right _ (List.mem_append_right _ (List.mem_of_getElem? (i := 90) (by decide +kernel)))))) (by decide +kernel)
theorem mn_64 : Cond.instanceMethod yX4_close ∈ ALL := ALL_i (List.mem_append_right _ (List.mem_append_right _ (List.mem_append_right _ (List.mem_append_right _ (List.mem_of_getElem? (i := 91) (by decide +kernel)))))) (by decide +kernel)
theorem mn_65 : Cond.selects RX4 yX4_close yX4_close ∈ ALL := ALL_i (List.mem_append_right _ (List.mem_append_right _ (List.mem_append_right _ (List.mem_append_right _ (List.mem_of_getElem? (i := 92) (by decide +kernel)))))) (by decide +kernel)
theorem mn_66 : Cond.code yX4_close cX4_close 1 none ∈ ALL := ALL_i (List.mem_append_right _ (List.mem_append_right _ (List.mem_append_right _ (List.mem_append_right _ (List.mem_of_getElem? (i := 93) (by decide +kernel)))))) (by decide +kernel)
theorem mn_67 : Cond.methodLink RL 111 yL_open ∈ ALL := ALL_i (List.mem_append_right _ (List.mem_append_right _ (List.mem_append_left _ (List.mem_of_getElem? (i := 217) (by decide +kernel))))) (by decide +kernel)
theorem mn_68 : Cond.static yL_open ∈ ALL := ALL_i (List.mem_append_right _ (List.mem_append_right _ (List.mem_append_left _ (List.mem_of_getElem? (i := 218) (by decide +kernel))))) (by decide +kernel)
theorem mn_69 : Cond.codeWith yL_open cL_open 3 (some .int) [(0, 8, 11, 17)] ∈ ALL := ALL_i (List.mem_append_right _ (List.mem_append_right _ (List.mem_append_left _ (List.mem_of_getElem? (i := 219) (by decide +kernel))))) (by decide +kernel)
theorem mn_70 : Cond.methodLink RL 114 yX4_open ∈ ALL := ALL_i (List.mem_append_right _ (List.mem_append_right _ (List.mem_append_right _ (List.mem_append_right _ (List.mem_of_getElem? (i := 94) (by decide +kernel)))))) (by decide +kernel)
theorem mn_71 : Cond.instanceMethod yX4_open ∈ ALL := ALL_i (List.mem_append_right _ (List.mem_append_right _ (List.mem_append_right _ (List.mem_append_right _ (List.mem_of_getElem? (i := 95) (by decide +kernel)))))) (by decide +kernel)
theorem mn_72 : Cond.selects RX4 yX4_open yX4_open ∈ ALL := ALL_i (List.mem_append_right _ (List.mem_append_right _ (List.mem_append_right _ (List.mem_append_right _ (List.mem_of_getElem? (i := 96) (by decide +kernel)))))) (by decide +kernel)
theorem mn_73 : Cond.code yX4_open cX4_open 2 (some .int) ∈ ALL := ALL_i (List.mem_append_right _ (List.mem_append_right _ (List.mem_append_right _ (List.mem_append_right _ (List.mem_of_getElem? (i := 97) (by decide +kernel)))))) (by decide +kernel)
theorem mn_74 : Cond.methodLink RL 115 yL_pump ∈ ALL := ALL_i (List.mem_append_right _ (List.mem_append_right _ (List.mem_append_left _ (List.mem_of_getElem? (i := 225) (by decide +kernel))))) (by decide +kernel)
theorem mn_75 : Cond.static yL_pump ∈ ALL := ALL_i (List.mem_append_right _ (List.mem_append_right _ (List.mem_append_left _ (List.mem_of_getElem? (i := 226) (by decide +kernel))))) (by decide +kernel)
theorem mn_76 : Cond.codeWith yL_pump cL_pump 5 (some .int) [(0, 10, 13, 15), (0, 10, 17, 17)] ∈ ALL := ALL_i (List.mem_append_right _ (List.mem_append_right _ (List.mem_append_left _ (List.mem_of_getElem? (i := 227) (by decide +kernel))))) (by decide +kernel)
theorem mn_77 : Cond.methodLink RL 118 yX4_pump ∈ ALL := ALL_i (List.mem_append_right _ (List.mem_append_right _ (List.mem_append_right _ (List.mem_append_right _ (List.mem_of_getElem? (i := 98) (by decide +kernel)))))) (by decide +kernel)
theorem mn_78 : Cond.instanceMethod yX4_pump ∈ ALL := ALL_i (List.mem_append_right _ (List.mem_append_right _ (List.mem_append_right _ (List.mem_append_right _ (List.mem_of_getElem? (i := 99) (by decide +kernel)))))) (by decide +kernel)
theorem mn_79 : Cond.selects RX4 yX4_pump yX4_pump ∈ ALL := ALL_i (List.mem_append_right _ (List.mem_append_right _ (List.mem_append_right _ (List.mem_append_right _ (List.mem_of_getElem? (i := 100) (by decide +kernel)))))) (by decide +kernel)
theorem mn_80 : Cond.code yX4_pump cX4_pump 6 (some .int) ∈ ALL := ALL_i (List.mem_append_right _ (List.mem_append_right _ (List.mem_append_right _ (List.mem_append_right _ (List.mem_of_getElem? (i := 101) (by decide +kernel)))))) (by decide +kernel)
theorem mn_81 : Cond.methodLink RL 119 yL_casing ∈ ALL := ALL_i (List.mem_append_right _ (List.mem_append_right _ (List.mem_append_left _ (List.mem_of_getElem? (i := 238) (by decide +kernel))))) (by decide +kernel)
theorem mn_82 : Cond.static yL_casing ∈ ALL := ALL_i (List.mem_append_right _ (List.mem_append_right _ (List.mem_append_left _ (List.mem_of_getElem? (i := 239) (by decide +kernel))))) (by decide +kernel)
theorem mn_83 : Cond.codeWith yL_casing cL_casing 4 (some .int) [(0, 9, 12, 15), (0, 9, 15, 17)] ∈ ALL := ALL_i (List.mem_append_right _ (List.mem_append_right _ (List.mem_append_right _ (List.mem_append_left _ (List.mem_of_getElem? (i := 0) (by decide +kernel)))))) (by decide +kernel)
theorem mn_84 : Cond.methodLink RL 121 yX4_casing ∈ ALL := ALL_i (List.mem_append_right _ (List.mem_append_right _ (List.mem_append_right _ (List.mem_append_right _ (List.mem_of_getElem? (i := 102) (by decide +kernel)))))) (by decide +kernel)
theorem mn_85 : Cond.instanceMethod yX4_casing ∈ ALL := ALL_i (List.mem_append_right _ (List.mem_append_right _ (List.mem_append_right _ (List.mem_append_right _ (List.mem_of_getElem? (i := 103) (by decide +kernel)))))) (by decide +kernel)
theorem mn_86 : Cond.selects RX4 yX4_casing yX4_casing ∈ ALL := ALL_i (List.mem_append_right _ (List.mem_append_right _ (List.mem_append_right _ (List.mem_append_right _ (List.mem_of_getElem? (i := 104) (by decide +kernel)))))) (by decide +kernel)
theorem mn_87 : Cond.code yX4_casing cX4_casing 4 (some .int) ∈ ALL := ALL_i (List.mem_append_right _ (List.mem_append_right _ (List.mem_append_right _ (List.mem_append_right _ (List.mem_of_getElem? (i := 105) (by decide +kernel)))))) (by decide +kernel)
theorem mn_88 : Cond.methodLink RL 122 yL_strength ∈ ALL := ALL_i (List.mem_append_right _ (List.mem_append_right _ (List.mem_append_right _ (List.mem_append_left _ (List.mem_of_getElem? (i := 7) (by decide +kernel)))))) (by decide +kernel)
theorem mn_89 : Cond.static yL_strength ∈ ALL := ALL_i (List.mem_append_right _ (List.mem_append_right _ (List.mem_append_right _ (List.mem_append_left _ (List.mem_of_getElem? (i := 8) (by decide +kernel)))))) (by decide +kernel)
theorem mn_90 : Cond.codeWith yL_strength cL_strength 4 (some .int) [(0, 9, 12, 15)] ∈ ALL := ALL_i (List.mem_append_right _ (List.mem_append_right _ (List.mem_append_right _ (List.mem_append_left _ (List.mem_of_getElem? (i := 9) (by decide +kernel)))))) (by decide +kernel)
theorem mn_91 : Cond.methodLink RL 124 yX4_strength ∈ ALL := ALL_i (List.mem_append_right _ (List.mem_append_right _ (List.mem_append_right _ (List.mem_append_right _ (List.mem_of_getElem? (i := 106) (by decide +kernel)))))) (by decide +kernel)
theorem mn_92 : Cond.instanceMethod yX4_strength ∈ ALL := ALL_i (List.mem_append_right _ (List.mem_append_right _ (List.mem_append_right _ (List.mem_append_right _ (List.mem_of_getElem? (i := 107) (by decide +kernel)))))) (by decide +kernel)
theorem mn_93 : Cond.selects RX4 yX4_strength yX4_strength ∈ ALL := ALL_i (List.mem_append_right _ (List.mem_append_right _ (List.mem_append_right _ (List.mem_append_right _ (List.mem_of_getElem? (i := 108) (by decide +kernel)))))) (by decide +kernel)
theorem mn_94 : Cond.code yX4_strength cX4_strength 3 (some .int) ∈ ALL := ALL_i (List.mem_append_right _ (List.mem_append_right _ (List.mem_append_right _ (List.mem_append_right _ (List.mem_of_getElem? (i := 109) (by decide +kernel)))))) (by decide +kernel)
theorem mn_95 : Cond.methodLink RL 125 yL_test ∈ ALL := ALL_i (List.mem_append_right _ (List.mem_append_right _ (List.mem_append_right _ (List.mem_append_left _ (List.mem_of_getElem? (i := 15) (by decide +kernel)))))) (by decide +kernel)
theorem mn_96 : Cond.static yL_test ∈ ALL := ALL_i (List.mem_append_right _ (List.mem_append_right _ (List.mem_append_right _ (List.mem_append_left _ (List.mem_of_getElem? (i := 16) (by decide +kernel)))))) (by decide +kernel)
theorem mn_97 : Cond.codeWith yL_test cL_test 5 (some .int) [(0, 17, 20, 15), (0, 17, 24, 17)] ∈ ALL := ALL_i (List.mem_append_right _ (List.mem_append_right _ (List.mem_append_right _ (List.mem_append_left _ (List.mem_of_getElem? (i := 17) (by decide +kernel)))))) (by decide +kernel)
theorem mn_98 : Cond.methodLink RL 127 yX4_test ∈ ALL := ALL_i (List.mem_append_right _ (List.mem_append_right _ (List.mem_append_right _ (List.mem_append_right _ (List.mem_of_getElem? (i := 110) (by decide +kernel)))))) (by decide +kernel)
theorem mn_99 : Cond.instanceMethod yX4_test ∈ ALL := ALL_i (List.mem_append_right _ (List.mem_append_right _ (List.mem_append_right _ (List.mem_append_right _ (List.mem_of_getElem? (i := 111) (by decide +kernel)))))) (by decide +kernel)
theorem mn_100 : Cond.selects RX4 yX4_test yX4_test ∈ ALL := ALL_i (List.mem_append_right _ (List.mem_append_right _ (List.mem_append_right _ (List.mem_append_right _ (List.mem_of_getElem? (i := 112) (by decide +kernel)))))) (by decide +kernel)
theorem mn_101 : Cond.code yX4_test cX4_test 5 (some .boolean) ∈ ALL := ALL_i (List.mem_append_right _ (List.mem_append_right _ (List.mem_append_right _ (List.mem_append_right _ (List.mem_of_getElem? (i := 113) (by decide +kernel)))))) (by decide +kernel)
theorem mn_102 : Cond.methodLink RL 128 yL_stop ∈ ALL := ALL_i (List.mem_append_right _ (List.mem_append_right _ (List.mem_append_right _ (List.mem_append_left _ (List.mem_of_getElem? (i := 29) (by decide +kernel)))))) (by decide +kernel)
theorem mn_103 : Cond.static yL_stop ∈ ALL := ALL_i (List.mem_append_right _ (List.mem_append_right _ (List.mem_append_right _ (List.mem_append_left _ (List.mem_of_getElem? (i := 30) (by decide +kernel)))))) (by decide +kernel)
theorem mn_104 : Cond.codeWith yL_stop cL_stop 5 (some .int) [(0, 10, 13, 13)] ∈ ALL := ALL_i (List.mem_append_right _ (List.mem_append_right _ (List.mem_append_right _ (List.mem_append_left _ (List.mem_of_getElem? (i := 31) (by decide +kernel)))))) (by decide +kernel)
theorem mn_105 : Cond.methodLink RL 131 yX4_stop ∈ ALL := ALL_i (List.mem_append_right _ (List.mem_append_right _ (List.mem_append_right _ (List.mem_append_right _ (List.mem_of_getElem? (i := 114) (by decide +kernel)))))) (by decide +kernel)
theorem mn_106 : Cond.instanceMethod yX4_stop ∈ ALL := ALL_i (List.mem_append_right _ (List.mem_append_right _ (List.mem_append_right _ (List.mem_append_right _ (List.mem_of_getElem? (i := 115) (by decide +kernel)))))) (by decide +kernel)
theorem mn_107 : Cond.selects RX4 yX4_stop yX4_stop ∈ ALL := ALL_i (List.mem_append_right _ (List.mem_append_right _ (List.mem_append_right _ (List.mem_append_right _ (List.mem_of_getElem? (i := 116) (by decide +kernel)))))) (by decide +kernel)
theorem mn_108 : Cond.code yX4_stop cX4_stop 5 (some .int) ∈ ALL := ALL_i (List.mem_append_right _ (List.mem_append_right _ (List.mem_append_right _ (List.mem_append_right _ (List.mem_of_getElem? (i := 117) (by decide +kernel)))))) (by decide +kernel)
theorem mn_109 : Cond.methodLink RL 132 yL_pressure ∈ ALL := ALL_i (List.mem_append_right _ (List.mem_append_right _ (List.mem_append_right _ (List.mem_append_left _ (List.mem_of_getElem? (i := 37) (by decide +kernel)))))) (by decide +kernel)
theorem mn_110 : Cond.static yL_pressure ∈ ALL := ALL_i (List.mem_append_right _ (List.mem_append_right _ (List.mem_append_right _ (List.mem_append_left _ (List.mem_of_getElem? (i := 38) (by decide +kernel)))))) (by decide +kernel)
theorem mn_111 : Cond.codeWith yL_pressure cL_pressure 4 (some .int) [(0, 9, 12, 15)] ∈ ALL := ALL_i (List.mem_append_right _ (List.mem_append_right _ (List.mem_append_right _ (List.mem_append_left _ (List.mem_of_getElem? (i := 39) (by decide +kernel)))))) (by decide +kernel)
theorem mn_112 : Cond.methodLink RL 134 yX4_pressure ∈ ALL := ALL_i (List.mem_append_right _ (List.mem_append_right _ (List.mem_append_right _ (List.mem_append_right _ (List.mem_of_getElem? (i := 126) (by decide +kernel)))))) (by decide +kernel)
theorem mn_113 : Cond.instanceMethod yX4_pressure ∈ ALL := ALL_i (List.mem_append_right _ (List.mem_append_right _ (List.mem_append_right _ (List.mem_append_right _ (List.mem_of_getElem? (i := 127) (by decide +kernel)))))) (by decide +kernel)
theorem mn_114 : Cond.selects RX4 yX4_pressure yX4_pressure ∈ ALL := ALL_i (List.mem_append_right _ (List.mem_append_right _ (List.mem_append_right _ (List.mem_append_right _ (List.mem_of_getElem? (i := 128) (by decide +kernel)))))) (by decide +kernel)
theorem mn_115 : Cond.code yX4_pressure cX4_pressure 2 (some .int) ∈ ALL := ALL_i (List.mem_append_right _ (List.mem_append_right _ (List.mem_append_right _ (List.mem_append_right _ (List.mem_of_getElem? (i := 129) (by decide +kernel)))))) (by decide +kernel)
theorem mn_116 : Cond.methodLink RL 135 yL_of ∈ ALL := ALL_i (List.mem_append_right _ (List.mem_append_right _ (List.mem_append_right _ (List.mem_append_left _ (List.mem_of_getElem? (i := 49) (by decide +kernel)))))) (by decide +kernel)
theorem mn_117 : Cond.static yL_of ∈ ALL := ALL_i (List.mem_append_right _ (List.mem_append_right _ (List.mem_append_right _ (List.mem_append_left _ (List.mem_of_getElem? (i := 50) (by decide +kernel)))))) (by decide +kernel)
theorem mn_118 : Cond.codeWith yL_of cL_of 4 (some .int) [(0, 8, 11, 15)] ∈ ALL := ALL_i (List.mem_append_right _ (List.mem_append_right _ (List.mem_append_right _ (List.mem_append_left _ (List.mem_of_getElem? (i := 51) (by decide +kernel)))))) (by decide +kernel)
theorem mn_119 : Cond.methodLink RL 137 yX4_of ∈ ALL := ALL_i (List.mem_append_right _ (List.mem_append_right _ (List.mem_append_right _ (List.mem_append_right _ (List.mem_of_getElem? (i := 130) (by decide +kernel)))))) (by decide +kernel)
theorem mn_120 : Cond.instanceMethod yX4_of ∈ ALL := ALL_i (List.mem_append_right _ (List.mem_append_right _ (List.mem_append_right _ (List.mem_append_right _ (List.mem_of_getElem? (i := 131) (by decide +kernel)))))) (by decide +kernel)
theorem mn_121 : Cond.selects RX4 yX4_of yX4_of ∈ ALL := ALL_i (List.mem_append_right _ (List.mem_append_right _ (List.mem_append_right _ (List.mem_append_right _ (List.mem_of_getElem? (i := 132) (by decide +kernel)))))) (by decide +kernel)
theorem mn_122 : Cond.code yX4_of cX4_of 2 (some .long) ∈ ALL := ALL_i (List.mem_append_right _ (List.mem_append_right _ (List.mem_append_right _ (List.mem_append_right _ (List.mem_of_getElem? (i := 133) (by decide +kernel)))))) (by decide +kernel)
theorem mn_123 : Cond.methodLink RL 138 yX3_barriers ∈ ALL := ALL_i (List.mem_append_right _ (List.mem_append_left _ (List.mem_of_getElem? (i := 174) (by decide +kernel)))) (by decide +kernel)
theorem mn_124 : Cond.methodLink RL 141 yX4_barriers ∈ ALL := ALL_i (List.mem_append_right _ (List.mem_append_right _ (List.mem_append_right _ (List.mem_append_right _ (List.mem_of_getElem? (i := 118) (by decide +kernel)))))) (by decide +kernel)
theorem mn_125 : Cond.instanceMethod yX4_barriers ∈ ALL := ALL_i (List.mem_append_right _ (List.mem_append_right _ (List.mem_append_right _ (List.mem_append_right _ (List.mem_of_getElem? (i := 119) (by decide +kernel)))))) (by decide +kernel)
theorem mn_126 : Cond.selects RX4 yX4_barriers yX4_barriers ∈ ALL := ALL_i (List.mem_append_right _ (List.mem_append_right _ (List.mem_append_right _ (List.mem_append_right _ (List.mem_of_getElem? (i := 120) (by decide +kernel)))))) (by decide +kernel)
theorem mn_127 : Cond.code yX4_barriers cX4_barriers 1 (some .int) ∈ ALL := ALL_i (List.mem_append_right _ (List.mem_append_right _ (List.mem_append_right _ (List.mem_append_right _ (List.mem_of_getElem? (i := 121) (by decide +kernel)))))) (by decide +kernel)
theorem mn_128 : Cond.methodLink RL 142 yX3_bars ∈ ALL := ALL_i (List.mem_append_right _ (List.mem_append_left _ (List.mem_of_getElem? (i := 225) (by decide +kernel)))) (by decide +kernel)
theorem mn_129 : Cond.methodLink RL 145 yX4_bars ∈ ALL := ALL_i (List.mem_append_right _ (List.mem_append_right _ (List.mem_append_right _ (List.mem_append_right _ (List.mem_of_getElem? (i := 122) (by decide +kernel)))))) (by decide +kernel)
theorem mn_130 : Cond.instanceMethod yX4_bars ∈ ALL := ALL_i (List.mem_append_right _ (List.mem_append_right _ (List.mem_append_right _ (List.mem_append_right _ (List.mem_of_getElem? (i := 123) (by decide +kernel)))))) (by decide +kernel)
theorem mn_131 : Cond.selects RX4 yX4_bars yX4_bars ∈ ALL := ALL_i (List.mem_append_right _ (List.mem_append_right _ (List.mem_append_right _ (List.mem_append_right _ (List.mem_of_getElem? (i := 124) (by decide +kernel)))))) (by decide +kernel)
theorem mn_132 : Cond.code yX4_bars cX4_bars 1 (some .int) ∈ ALL := ALL_i (List.mem_append_right _ (List.mem_append_right _ (List.mem_append_right _ (List.mem_append_right _ (List.mem_of_getElem? (i := 125) (by decide +kernel)))))) (by decide +kernel)
theorem mn_133 : Cond.methodLink RL 146 yL_ofTest ∈ ALL := ALL_i (List.mem_append_right _ (List.mem_append_right _ (List.mem_append_right _ (List.mem_append_left _ (List.mem_of_getElem? (i := 57) (by decide +kernel)))))) (by decide +kernel)
theorem mn_134 : Cond.static yL_ofTest ∈ ALL := ALL_i (List.mem_append_right _ (List.mem_append_right _ (List.mem_append_right _ (List.mem_append_left _ (List.mem_of_getElem? (i := 58) (by decide +kernel)))))) (by decide +kernel)
theorem mn_135 : Cond.codeWith yL_ofTest cL_ofTest 5 (some .int) [(0, 10, 13, 13), (0, 10, 17, 15)] ∈ ALL := ALL_i (List.mem_append_right _ (List.mem_append_right _ (List.mem_append_right _ (List.mem_append_left _ (List.mem_of_getElem? (i := 59) (by decide +kernel)))))) (by decide +kernel)
theorem mn_136 : Cond.methodLink RL 148 yX4_ofTest ∈ ALL := ALL_i (List.mem_append_right _ (List.mem_append_right _ (List.mem_append_right _ (List.mem_append_right _ (List.mem_of_getElem? (i := 135) (by decide +kernel)))))) (by decide +kernel)
theorem mn_137 : Cond.instanceMethod yX4_ofTest ∈ ALL := ALL_i (List.mem_append_right _ (List.mem_append_right _ (List.mem_append_right _ (List.mem_append_right _ (List.mem_of_getElem? (i := 136) (by decide +kernel)))))) (by decide +kernel)
theorem mn_138 : Cond.selects RX4 yX4_ofTest yX4_ofTest ∈ ALL := ALL_i (List.mem_append_right _ (List.mem_append_right _ (List.mem_append_right _ (List.mem_append_right _ (List.mem_of_getElem? (i := 137) (by decide +kernel)))))) (by decide +kernel)
theorem mn_139 : Cond.code yX4_ofTest cX4_ofTest 4 (some .int) ∈ ALL := ALL_i (List.mem_append_right _ (List.mem_append_right _ (List.mem_append_right _ (List.mem_append_right _ (List.mem_of_getElem? (i := 138) (by decide +kernel)))))) (by decide +kernel)
theorem mn_140 : Cond.methodLink RL 149 yL_killWeight ∈ ALL := ALL_i (List.mem_append_right _ (List.mem_append_right _ (List.mem_append_right _ (List.mem_append_left _ (List.mem_of_getElem? (i := 65) (by decide +kernel)))))) (by decide +kernel)
theorem mn_141 : Cond.static yL_killWeight ∈ ALL := ALL_i (List.mem_append_right _ (List.mem_append_right _ (List.mem_append_right _ (List.mem_append_left _ (List.mem_of_getElem? (i := 66) (by decide +kernel)))))) (by decide +kernel)
theorem mn_142 : Cond.codeWith yL_killWeight cL_killWeight 3 (some .int) [(0, 8, 11, 17)] ∈ ALL := ALL_i (List.mem_append_right _ (List.mem_append_right _ (List.mem_append_right _ (List.mem_append_left _ (List.mem_of_getElem? (i := 67) (by decide +kernel)))))) (by decide +kernel)
theorem mn_143 : Cond.methodLink RL 151 yX4_killWeight ∈ ALL := ALL_i (List.mem_append_right _ (List.mem_append_right _ (List.mem_append_right _ (List.mem_append_right _ (List.mem_of_getElem? (i := 139) (by decide +kernel)))))) (by decide +kernel)
theorem mn_144 : Cond.instanceMethod yX4_killWeight ∈ ALL := ALL_i (List.mem_append_right _ (List.mem_append_right _ (List.mem_append_right _ (List.mem_append_right _ (List.mem_of_getElem? (i := 140) (by decide +kernel)))))) (by decide +kernel)
theorem mn_145 : Cond.selects RX4 yX4_killWeight yX4_killWeight ∈ ALL := ALL_i (List.mem_append_right _ (List.mem_append_right _ (List.mem_append_right _ (List.mem_append_right _ (List.mem_of_getElem? (i := 141) (by decide +kernel)))))) (by decide +kernel)
theorem mn_146 : Cond.code yX4_killWeight cX4_killWeight 2 (some .int) ∈ ALL := ALL_i (List.mem_append_right _ (List.mem_append_right _ (List.mem_append_right _ (List.mem_append_right _ (List.mem_of_getElem? (i := 142) (by decide +kernel)))))) (by decide +kernel)
theorem mn_147 : Cond.methodLink RL 152 yL_window ∈ ALL := ALL_i (List.mem_append_right _ (List.mem_append_right _ (List.mem_append_right _ (List.mem_append_left _ (List.mem_of_getElem? (i := 73) (by decide +kernel)))))) (by decide +kernel)
theorem mn_148 : Cond.static yL_window ∈ ALL := ALL_i (List.mem_append_right _ (List.mem_append_right _ (List.mem_append_right _ (List.mem_append_left _ (List.mem_of_getElem? (i := 74) (by decide +kernel)))))) (by decide +kernel)
theorem mn_149 : Cond.codeWith yL_window cL_window 6 (some .int) [(0, 12, 15, 15)] ∈ ALL := ALL_i (List.mem_append_right _ (List.mem_append_right _ (List.mem_append_right _ (List.mem_append_left _ (List.mem_of_getElem? (i := 75) (by decide +kernel)))))) (by decide +kernel)
theorem mn_150 : Cond.methodLink RL 155 yX4_window ∈ ALL := ALL_i (List.mem_append_right _ (List.mem_append_right _ (List.mem_append_right _ (List.mem_append_right _ (List.mem_of_getElem? (i := 143) (by decide +kernel)))))) (by decide +kernel)
theorem mn_151 : Cond.instanceMethod yX4_window ∈ ALL := ALL_i (List.mem_append_right _ (List.mem_append_right _ (List.mem_append_right _ (List.mem_append_right _ (List.mem_of_getElem? (i := 144) (by decide +kernel)))))) (by decide +kernel)
theorem mn_152 : Cond.selects RX4 yX4_window yX4_window ∈ ALL := ALL_i (List.mem_append_right _ (List.mem_append_right _ (List.mem_append_right _ (List.mem_append_right _ (List.mem_of_getElem? (i := 145) (by decide +kernel)))))) (by decide +kernel)
theorem mn_153 : Cond.code yX4_window cX4_window 5 (some .int) ∈ ALL := ALL_i (List.mem_append_right _ (List.mem_append_right _ (List.mem_append_right _ (List.mem_append_right _ (List.mem_of_getElem? (i := 146) (by decide +kernel)))))) (by decide +kernel)
theorem mn_154 : Cond.methodLink RL 156 yL_casings ∈ ALL := ALL_i (List.mem_append_right _ (List.mem_append_right _ (List.mem_append_right _ (List.mem_append_left _ (List.mem_of_getElem? (i := 92) (by decide +kernel)))))) (by decide +kernel)
theorem mn_155 : Cond.static yL_casings ∈ ALL := ALL_i (List.mem_append_right _ (List.mem_append_right _ (List.mem_append_right _ (List.mem_append_left _ (List.mem_of_getElem? (i := 93) (by decide +kernel)))))) (by decide +kernel)
theorem mn_156 : Cond.codeWith yL_casings cL_casings 4 (some .int) [(0, 9, 12, 15)] ∈ ALL := ALL_i (List.mem_append_right _ (List.mem_append_right _ (List.mem_append_right _ (List.mem_append_left _ (List.mem_of_getElem? (i := 94) (by decide +kernel)))))) (by decide +kernel)
theorem mn_157 : Cond.methodLink RL 158 yX4_casings ∈ ALL := ALL_i (List.mem_append_right _ (List.mem_append_right _ (List.mem_append_right _ (List.mem_append_right _ (List.mem_of_getElem? (i := 151) (by decide +kernel)))))) (by decide +kernel)
theorem mn_158 : Cond.instanceMethod yX4_casings ∈ ALL := ALL_i (List.mem_append_right _ (List.mem_append_right _ (List.mem_append_right _ (List.mem_append_right _ (List.mem_of_getElem? (i := 152) (by decide +kernel)))))) (by decide +kernel)
theorem mn_159 : Cond.selects RX4 yX4_casings yX4_casings ∈ ALL := ALL_i (List.mem_append_right _ (List.mem_append_right _ (List.mem_append_right _ (List.mem_append_right _ (List.mem_of_getElem? (i := 153) (by decide +kernel)))))) (by decide +kernel)
theorem mn_160 : Cond.code yX4_casings cX4_casings 2 (some .int) ∈ ALL := ALL_i (List.mem_append_right _ (List.mem_append_right _ (List.mem_append_right _ (List.mem_append_right _ (List.mem_of_getElem? (i := 154) (by decide +kernel)))))) (by decide +kernel)
theorem mn_161 : Cond.methodLink RL 159 yL_casingsAnew ∈ ALL := ALL_i (List.mem_append_right _ (List.mem_append_right _ (List.mem_append_right _ (List.mem_append_left _ (List.mem_of_getElem? (i := 104) (by decide +kernel)))))) (by decide +kernel)
theorem mn_162 : Cond.static yL_casingsAnew ∈ ALL := ALL_i (List.mem_append_right _ (List.mem_append_right _ (List.mem_append_right _ (List.mem_append_left _ (List.mem_of_getElem? (i := 105) (by decide +kernel)))))) (by decide +kernel)
theorem mn_163 : Cond.codeWith yL_casingsAnew cL_casingsAnew 4 (some .int) [(0, 9, 12, 15)] ∈ ALL := ALL_i (List.mem_append_right _ (List.mem_append_right _ (List.mem_append_right _ (List.mem_append_left _ (List.mem_of_getElem? (i := 106) (by decide +kernel)))))) (by decide +kernel)
theorem mn_164 : Cond.methodLink RL 161 yX4_casingsAnew ∈ ALL := ALL_i (List.mem_append_right _ (List.mem_append_right _ (List.mem_append_right _ (List.mem_append_right _ (List.mem_of_getElem? (i := 159) (by decide +kernel)))))) (by decide +kernel)
theorem mn_165 : Cond.instanceMethod yX4_casingsAnew ∈ ALL := ALL_i (List.mem_append_right _ (List.mem_append_right _ (List.mem_append_right _ (List.mem_append_right _ (List.mem_of_getElem? (i := 160) (by decide +kernel)))))) (by decide +kernel)
theorem mn_166 : Cond.selects RX4 yX4_casingsAnew yX4_casingsAnew ∈ ALL := ALL_i (List.mem_append_right _ (List.mem_append_right _ (List.mem_append_right _ (List.mem_append_right _ (List.mem_of_getElem? (i := 161) (by decide +kernel)))))) (by decide +kernel)
theorem mn_167 : Cond.code yX4_casingsAnew cX4_casingsAnew 2 (some .int) ∈ ALL := ALL_i (List.mem_append_right _ (List.mem_append_right _ (List.mem_append_right _ (List.mem_append_right _ (List.mem_of_getElem? (i := 162) (by decide +kernel)))))) (by decide +kernel)
theorem mn_168 : Cond.methodLink RL 162 yL_equivalent ∈ ALL := ALL_i (List.mem_append_right _ (List.mem_append_right _ (List.mem_append_right _ (List.mem_append_left _ (List.mem_of_getElem? (i := 119) (by decide +kernel)))))) (by decide +kernel)
theorem mn_169 : Cond.static yL_equivalent ∈ ALL := ALL_i (List.mem_append_right _ (List.mem_append_right _ (List.mem_append_right _ (List.mem_append_left _ (List.mem_of_getElem? (i := 120) (by decide +kernel)))))) (by decide +kernel)
theorem mn_170 : Cond.codeWith yL_equivalent cL_equivalent 3 (some .int) [(0, 8, 11, 17)] ∈ ALL := ALL_i (List.mem_append_right _ (List.mem_append_right _ (List.mem_append_right _ (List.mem_append_left _ (List.mem_of_getElem? (i := 121) (by decide +kernel)))))) (by decide +kernel)
theorem mn_171 : Cond.methodLink RL 165 yX4_equivalent ∈ ALL := ALL_i (List.mem_append_right _ (List.mem_append_right _ (List.mem_append_right _ (List.mem_append_right _ (List.mem_of_getElem? (i := 163) (by decide +kernel)))))) (by decide +kernel)
theorem mn_172 : Cond.instanceMethod yX4_equivalent ∈ ALL := ALL_i (List.mem_append_right _ (List.mem_append_right _ (List.mem_append_right _ (List.mem_append_right _ (List.mem_of_getElem? (i := 164) (by decide +kernel)))))) (by decide +kernel)
theorem mn_173 : Cond.selects RX4 yX4_equivalent yX4_equivalent ∈ ALL := ALL_i (List.mem_append_right _ (List.mem_append_right _ (List.mem_append_right _ (List.mem_append_right _ (List.mem_of_getElem? (i := 165) (by decide +kernel)))))) (by decide +kernel)
theorem mn_174 : Cond.code yX4_equivalent cX4_equivalent 1 (some .float) ∈ ALL := ALL_i (List.mem_append_right _ (List.mem_append_right _ (List.mem_append_right _ (List.mem_append_right _ (List.mem_of_getElem? (i := 166) (by decide +kernel)))))) (by decide +kernel)
theorem mn_175 : Cond.methodLink RL 166 yL_ahead ∈ ALL := ALL_i (List.mem_append_right _ (List.mem_append_right _ (List.mem_append_right _ (List.mem_append_left _ (List.mem_of_getElem? (i := 127) (by decide +kernel)))))) (by decide +kernel)
theorem mn_176 : Cond.static yL_ahead ∈ ALL := ALL_i (List.mem_append_right _ (List.mem_append_right _ (List.mem_append_right _ (List.mem_append_left _ (List.mem_of_getElem? (i := 128) (by decide +kernel)))))) (by decide +kernel)
theorem mn_177 : Cond.codeWith yL_ahead cL_ahead 4 (some .int) [(0, 9, 12, 15)] ∈ ALL := ALL_i (List.mem_append_right _ (List.mem_append_right _ (List.mem_append_right _ (List.mem_append_left _ (List.mem_of_getElem? (i := 129) (by decide +kernel)))))) (by decide +kernel)
theorem mn_178 : Cond.methodLink RL 168 yX4_ahead ∈ ALL := ALL_i (List.mem_append_right _ (List.mem_append_right _ (List.mem_append_right _ (List.mem_append_right _ (List.mem_of_getElem? (i := 167) (by decide +kernel)))))) (by decide +kernel)
theorem mn_179 : Cond.instanceMethod yX4_ahead ∈ ALL := ALL_i (List.mem_append_right _ (List.mem_append_right _ (List.mem_append_right _ (List.mem_append_right _ (List.mem_of_getElem? (i := 168) (by decide +kernel)))))) (by decide +kernel)
theorem mn_180 : Cond.selects RX4 yX4_ahead yX4_ahead ∈ ALL := ALL_i (List.mem_append_right _ (List.mem_append_right _ (List.mem_append_right _ (List.mem_append_right _ (List.mem_of_getElem? (i := 169) (by decide +kernel)))))) (by decide +kernel)
theorem mn_181 : Cond.code yX4_ahead cX4_ahead 3 (some .int) ∈ ALL := ALL_i (List.mem_append_right _ (List.mem_append_right _ (List.mem_append_right _ (List.mem_append_right _ (List.mem_of_getElem? (i := 170) (by decide +kernel)))))) (by decide +kernel)
theorem lk_L_88 : LKW RL 88 yL_layer cL_layer 7 (some .int) [(0, 11, 14, 13), (0, 11, 18, 15), (0, 11, 22, 17)] 6 := ⟨mn_27, mn_28, mn_29, mn_30, by decide +kernel, by decide +kernel, by decide +kernel⟩
theorem lk_L_93 : LKV RL 93 RX4 yX4_layer cX4_layer 8 none 5 := ⟨mn_31, mn_32, mn_33, ⟨mm_270, mn_34, by decide +kernel, by decide +kernel, by decide +kernel⟩⟩
theorem lk_L_94 : LKV RL 94 RX4 yX4_thrown cX4_thrown 1 (some .int) 0 := ⟨mn_35, mn_36, mn_37, ⟨mm_270, mn_38, by decide +kernel, by decide +kernel, by decide +kernel⟩⟩
theorem lk_L_97 : LKW RL 97 yL_mud cL_mud 4 (some .int) [(0, 9, 12, 15), (0, 9, 15, 17)] 3 := ⟨mn_39, mn_40, mn_29, mn_41, by decide +kernel, by decide +kernel, by decide +kernel⟩
theorem lk_L_100 : LKV RL 100 RX4 yX4_mud cX4_mud 4 (some .int) 1 := ⟨mn_42, mn_43, mn_44, ⟨mm_270, mn_45, by decide +kernel, by decide +kernel, by decide +kernel⟩⟩
theorem lk_L_101 : LKW RL 101 yL_drill cL_drill 4 (some .int) [(0, 9, 12, 15), (0, 9, 15, 17)] 3 := ⟨mn_46, mn_47, mn_29, mn_48, by decide +kernel, by decide +kernel, by decide +kernel⟩
theorem lk_L_103 : LKV RL 103 RX4 yX4_drill cX4_drill 5 (some .int) 1 := ⟨mn_49, mn_50, mn_51, ⟨mm_270, mn_52, by decide +kernel, by decide +kernel, by decide +kernel⟩⟩
theorem lk_L_104 : LKW RL 104 yL_pass cL_pass 4 (some .int) [(0, 9, 12, 15), (0, 9, 15, 17)] 3 := ⟨mn_53, mn_54, mn_29, mn_55, by decide +kernel, by decide +kernel, by decide +kernel⟩
theorem lk_L_106 : LKV RL 106 RX4 yX4_pass cX4_pass 4 (some .int) 1 := ⟨mn_56, mn_57, mn_58, ⟨mm_270, mn_59, by decide +kernel, by decide +kernel, by decide +kernel⟩⟩
theorem lk_L_107 : LKW RL 107 yL_close cL_close 2 (some .int) [(0, 4, 7, 17)] 1 := ⟨mn_60, mn_61, mn_29, mn_62, by decide +kernel, by decide +kernel, by decide +kernel⟩
theorem lk_L_110 : LKV RL 110 RX4 yX4_close cX4_close 1 none 0 := ⟨mn_63, mn_64, mn_65, ⟨mm_270, mn_66, by decide +kernel, by decide +kernel, by decide +kernel⟩⟩
theorem lk_L_111 : LKW RL 111 yL_open cL_open 3 (some .int) [(0, 8, 11, 17)] 2 := ⟨mn_67, mn_68, mn_29, mn_69, by decide +kernel, by decide +kernel, by decide +kernel⟩
theorem lk_L_114 : LKV RL 114 RX4 yX4_open cX4_open 2 (some .int) 0 := ⟨mn_70, mn_71, mn_72, ⟨mm_270, mn_73, by decide +kernel, by decide +kernel, by decide +kernel⟩⟩
theorem lk_L_115 : LKW RL 115 yL_pump cL_pump 5 (some .int) [(0, 10, 13, 15), (0, 10, 17, 17)] 4 := ⟨mn_74, mn_75, mn_29, mn_76, by decide +kernel, by decide +kernel, by decide +kernel⟩
theorem lk_L_118 : LKV RL 118 RX4 yX4_pump cX4_pump 6 (some .int) 2 := ⟨mn_77, mn_78, mn_79, ⟨mm_270, mn_80, by decide +kernel, by decide +kernel, by decide +kernel⟩⟩
theorem lk_L_119 : LKW RL 119 yL_casing cL_casing 4 (some .int) [(0, 9, 12, 15), (0, 9, 15, 17)] 3 := ⟨mn_81, mn_82, mn_29, mn_83, by decide +kernel, by decide +kernel, by decide +kernel⟩
theorem lk_L_121 : LKV RL 121 RX4 yX4_casing cX4_casing 4 (some .int) 1 := ⟨mn_84, mn_85, mn_86, ⟨mm_270, mn_87, by decide +kernel, by decide +kernel, by decide +kernel⟩⟩
theorem lk_L_122 : LKW RL 122 yL_strength cL_strength 4 (some .int) [(0, 9, 12, 15)] 3 := ⟨mn_88, mn_89, mn_29, mn_90, by decide +kernel, by decide +kernel, by decide +kernel⟩
theorem lk_L_124 : LKV RL 124 RX4 yX4_strength cX4_strength 3 (some .int) 1 := ⟨mn_91, mn_92, mn_93, ⟨mm_270, mn_94, by decide +kernel, by decide +kernel, by decide +kernel⟩⟩
theorem lk_L_125 : LKW RL 125 yL_test cL_test 5 (some .int) [(0, 17, 20, 15), (0, 17, 24, 17)] 4 := ⟨mn_95, mn_96, mn_29, mn_97, by decide +kernel, by decide +kernel, by decide +kernel⟩
theorem lk_L_127 : LKV RL 127 RX4 yX4_test cX4_test 5 (some .boolean) 2 := ⟨mn_98, mn_99, mn_100, ⟨mm_270, mn_101, by decide +kernel, by decide +kernel, by decide +kernel⟩⟩
theorem lk_L_128 : LKW RL 128 yL_stop cL_stop 5 (some .int) [(0, 10, 13, 13)] 4 := ⟨mn_102, mn_103, mn_29, mn_104, by decide +kernel, by decide +kernel, by decide +kernel⟩
theorem lk_L_131 : LKV RL 131 RX4 yX4_stop cX4_stop 5 (some .int) 2 := ⟨mn_105, mn_106, mn_107, ⟨mm_270, mn_108, by decide +kernel, by decide +kernel, by decide +kernel⟩⟩
theorem lk_L_132 : LKW RL 132 yL_pressure cL_pressure 4 (some .int) [(0, 9, 12, 15)] 3 := ⟨mn_109, mn_110, mn_29, mn_111, by decide +kernel, by decide +kernel, by decide +kernel⟩
theorem lk_L_134 : LKV RL 134 RX4 yX4_pressure cX4_pressure 2 (some .int) 1 := ⟨mn_112, mn_113, mn_114, ⟨mm_270, mn_115, by decide +kernel, by decide +kernel, by decide +kernel⟩⟩
theorem lk_L_135 : LKW RL 135 yL_of cL_of 4 (some .int) [(0, 8, 11, 15)] 3 := ⟨mn_116, mn_117, mn_29, mn_118, by decide +kernel, by decide +kernel, by decide +kernel⟩
theorem lk_L_137 : LKV RL 137 RX4 yX4_of cX4_of 2 (some .long) 1 := ⟨mn_119, mn_120, mn_121, ⟨mm_270, mn_122, by decide +kernel, by decide +kernel, by decide +kernel⟩⟩
theorem lk_L_138 : LKV RL 138 RX3 yX3_barriers cX3_barriers 1 (some .int) 0 := ⟨mn_123, mm_135, mm_136, ⟨mm_6, mm_137, by decide +kernel, by decide +kernel, by decide +kernel⟩⟩
theorem lk_L_141 : LKV RL 141 RX4 yX4_barriers cX4_barriers 1 (some .int) 0 := ⟨mn_124, mn_125, mn_126, ⟨mm_270, mn_127, by decide +kernel, by decide +kernel, by decide +kernel⟩⟩
theorem lk_L_142 : LKV RL 142 RX3 yX3_bars cX3_bars 1 (some .int) 0 := ⟨mn_128, mm_150, mm_151, ⟨mm_6, mm_152, by decide +kernel, by decide +kernel, by decide +kernel⟩⟩
theorem lk_L_145 : LKV RL 145 RX4 yX4_bars cX4_bars 1 (some .int) 0 := ⟨mn_129, mn_130, mn_131, ⟨mm_270, mn_132, by decide +kernel, by decide +kernel, by decide +kernel⟩⟩
theorem lk_L_146 : LKW RL 146 yL_ofTest cL_ofTest 5 (some .int) [(0, 10, 13, 13), (0, 10, 17, 15)] 4 := ⟨mn_133, mn_134, mn_29, mn_135, by decide +kernel, by decide +kernel, by decide +kernel⟩
theorem lk_L_148 : LKV RL 148 RX4 yX4_ofTest cX4_ofTest 4 (some .int) 2 := ⟨mn_136, mn_137, mn_138, ⟨mm_270, mn_139, by decide +kernel, by decide +kernel, by decide +kernel⟩⟩
theorem lk_L_149 : LKW RL 149 yL_killWeight cL_killWeight 3 (some .int) [(0, 8, 11, 17)] 2 := ⟨mn_140, mn_141, mn_29, mn_142, by decide +kernel, by decide +kernel, by decide +kernel⟩
theorem lk_L_151 : LKV RL 151 RX4 yX4_killWeight cX4_killWeight 2 (some .int) 0 := ⟨mn_143, mn_144, mn_145, ⟨mm_270, mn_146, by decide +kernel, by decide +kernel, by decide +kernel⟩⟩
theorem lk_L_152 : LKW RL 152 yL_window cL_window 6 (some .int) [(0, 12, 15, 15)] 5 := ⟨mn_147, mn_148, mn_29, mn_149, by decide +kernel, by decide +kernel, by decide +kernel⟩
theorem lk_L_155 : LKV RL 155 RX4 yX4_window cX4_window 5 (some .int) 3 := ⟨mn_150, mn_151, mn_152, ⟨mm_270, mn_153, by decide +kernel, by decide +kernel, by decide +kernel⟩⟩
theorem lk_L_156 : LKW RL 156 yL_casings cL_casings 4 (some .int) [(0, 9, 12, 15)] 3 := ⟨mn_154, mn_155, mn_29, mn_156, by decide +kernel, by decide +kernel, by decide +kernel⟩
theorem lk_L_158 : LKV RL 158 RX4 yX4_casings cX4_casings 2 (some .int) 1 := ⟨mn_157, mn_158, mn_159, ⟨mm_270, mn_160, by decide +kernel, by decide +kernel, by decide +kernel⟩⟩
theorem lk_L_159 : LKW RL 159 yL_casingsAnew cL_casingsAnew 4 (some .int) [(0, 9, 12, 15)] 3 := ⟨mn_161, mn_162, mn_29, mn_163, by decide +kernel, by decide +kernel, by decide +kernel⟩
theorem lk_L_161 : LKV RL 161 RX4 yX4_casingsAnew cX4_casingsAnew 2 (some .int) 1 := ⟨mn_164, mn_165, mn_166, ⟨mm_270, mn_167, by decide +kernel, by decide +kernel, by decide +kernel⟩⟩
theorem lk_L_162 : LKW RL 162 yL_equivalent cL_equivalent 3 (some .int) [(0, 8, 11, 17)] 2 := ⟨mn_168, mn_169, mn_29, mn_170, by decide +kernel, by decide +kernel, by decide +kernel⟩
theorem lk_L_165 : LKV RL 165 RX4 yX4_equivalent cX4_equivalent 1 (some .float) 0 := ⟨mn_171, mn_172, mn_173, ⟨mm_270, mn_174, by decide +kernel, by decide +kernel, by decide +kernel⟩⟩
theorem lk_L_166 : LKW RL 166 yL_ahead cL_ahead 4 (some .int) [(0, 9, 12, 15)] 3 := ⟨mn_175, mn_176, mn_29, mn_177, by decide +kernel, by decide +kernel, by decide +kernel⟩
theorem lk_L_168 : LKV RL 168 RX4 yX4_ahead cX4_ahead 3 (some .int) 1 := ⟨mn_178, mn_179, mn_180, ⟨mm_270, mn_181, by decide +kernel, by decide +kernel, by decide +kernel⟩⟩
/-! The law's cases. -/
section LAWB
variable {p : Program} {l : Launch} {e : Env} {R : Room} {s : State} {m : MethodId} {args : Array Value} {below : List Frame} {meth : Method} {c : Code} {H : Heap} {locs : List Loc} {cells slots : Nat} {Q : State → Prop}
variable {D : va_G} {q : Nat → ClassId} {ws : va_W} {A : Nat → Prop} {H0 : Heap} {cc : ByteArray} {pc : Nat} {ls : Array Slot} {rest st : List Value}
theorem sld {b L : Nat} {xs : Nat → Int32} (hexec : p.tables.exec = Jvm.exec) (hb : c.code = cc) (hX : va_X b L xs s H0) (hbl : b < H0.size) (hbA : ¬ A b) (hS : va_S A H0 H locs) {i v : Int32} (hin : vp_in i L) (hv : xs i.toNatClampNeg = v) (hdg : decode cc pc = .ok (.iaload, 1))
    (kk : W p l e R s m args below meth c H locs cells slots Q (F0 m (pc + 1) ls (.int v :: rest))) : W p l e R s m args below meth c H locs cells slots Q (F0 m pc ls (.int i :: .ref b :: rest)) := by
  subst hv
  exact va_sld hexec hb hX hbl hbA hS hin hdg kk
theorem kW1_i {a : Array Value} {S : Type} {wc : va_W} {C : S → va_W} {post : Int32 → S → Prop} (hr : va_Run p l e R s m args below meth c H locs cells slots 1 6 (F0 m pc ls st) rest (va_Qi post (fun u t => va_P D vwCl (C u) t.heap) (va_A wc H.size) a) (va_A wc H.size)) (hP : va_P D vwCl ws H) (hD : va_D A ws) (hS : va_S A H0 H locs) (hA : ∀ q, H0.size ≤ q → A q) (pl : List Nat) (hpl : pl.map (fun i => ws[i]?) = wc.map some) (hlen : ∀ u, (C u).length = wc.length)
    (kk : ∀ (r : Int32) (u : S) (H1 : Heap) (locs1 : List Loc), post r u → va_P D vwCl (setAll ws pl (C u)) H1 → va_S A H0 H1 locs1 → W p l e R s m args below meth c H1 locs1 (cells + 1) (slots + 6) Q (F0 m (pc + 3) ls (.int r :: rest))) : W p l e R s m args below meth c H locs cells slots Q (F0 m pc ls st) :=
  va_calli hr hS (fun q9 _ h => va_free hD hS hA pl hpl q9 h) (va_free hD hS hA pl hpl) (fun r u t H1 locs1 ht _ hp hB _ hk hS1 => kk r u H1 locs1 hp (P_join hP hD pl hpl (hlen u) hk (by rw [← ht]; exact hB)) hS1)
theorem kW_l {a : Array Value} {S : Type} {wc : va_W} {C : S → va_W} {post : Int64 → S → Prop} (hr : va_Run p l e R s m args below meth c H locs cells slots 0 0 (F0 m pc ls st) rest (va_Ql post (fun u t => va_P D vwCl (C u) t.heap) (va_A wc H.size) a) (va_A wc H.size)) (hP : va_P D vwCl ws H) (hD : va_D A ws) (hS : va_S A H0 H locs) (hA : ∀ q, H0.size ≤ q → A q) (pl : List Nat) (hpl : pl.map (fun i => ws[i]?) = wc.map some) (hlen : ∀ u, (C u).length = wc.length)
    (kk : ∀ (r : Int64) (u : S) (H1 : Heap) (locs1 : List Loc), post r u → va_P D vwCl (setAll ws pl (C u)) H1 → va_S A H0 H1 locs1 → W p l e R s m args below meth c H1 locs1 cells slots Q (F0 m (pc + 3) ls (.long r :: rest))) : W p l e R s m args below meth c H locs cells slots Q (F0 m pc ls st) :=
  va_calll hr hS (fun q9 _ h => va_free hD hS hA pl hpl q9 h) (va_free hD hS hA pl hpl) (fun r u t H1 locs1 ht _ hp hB _ hk hS1 => kk r u H1 locs1 hp (P_join hP hD pl hpl (hlen u) hk (by rw [← ht]; exact hB)) hS1)
theorem kW_f {a : Array Value} {S : Type} {wc : va_W} {C : S → va_W} {post : UInt32 → S → Prop} (hr : va_Run p l e R s m args below meth c H locs cells slots 0 0 (F0 m pc ls st) rest (va_Qf post (fun u t => va_P D vwCl (C u) t.heap) (va_A wc H.size) a) (va_A wc H.size)) (hP : va_P D vwCl ws H) (hD : va_D A ws) (hS : va_S A H0 H locs) (hA : ∀ q, H0.size ≤ q → A q) (pl : List Nat) (hpl : pl.map (fun i => ws[i]?) = wc.map some) (hlen : ∀ u, (C u).length = wc.length)
    (kk : ∀ (r : UInt32) (u : S) (H1 : Heap) (locs1 : List Loc), post r u → va_P D vwCl (setAll ws pl (C u)) H1 → va_S A H0 H1 locs1 → W p l e R s m args below meth c H1 locs1 cells slots Q (F0 m (pc + 3) ls (.float r :: rest))) : W p l e R s m args below meth c H locs cells slots Q (F0 m pc ls st) :=
  va_callf hr hS (fun q9 _ h => va_free hD hS hA pl hpl q9 h) (va_free hD hS hA pl hpl) (fun r u t H1 locs1 ht _ hp hB _ hk hS1 => kk r u H1 locs1 hp (P_join hP hD pl hpl (hlen u) hk (by rw [← ht]; exact hB)) hS1)
end LAWB
def f_law_0 (F : XS → WS → WS → RS → TS → MS → (Nat → Int64) → (Nat → UInt64) → Int32) (x : XS) (w : WS) (v : WS) (r : RS) (t : TS) (g : MS) (fo : (Nat → Int64)) (fd : (Nat → UInt64)) (p1 : Int32) (p2 : Int32) (p3 : Int32) (p4 : Int32) (p5 : Int32) : Int32 :=
  if (f_X4_thrown (f_X4_layer g p1 p2 p3 p4 (if p5 = 0 then (0 : Int32) else (1 : Int32)))) = (f_L_layer w r p1 p2 p3 p4 (if p5 = 0 then (0 : Int32) else (1 : Int32))).1 then (F x w v ((f_L_layer w r p1 p2 p3 p4 (if p5 = 0 then (0 : Int32) else (1 : Int32))).2) t (f_X4_layer g p1 p2 p3 p4 (if p5 = 0 then (0 : Int32) else (1 : Int32))) fo fd) else (0 : Int32)

def ok_law_0 (g : MS) (p1 : Int32) (p2 : Int32) (p3 : Int32) (p4 : Int32) (p5 : Int32) : Prop :=
  (ok_X4_layer g p1 p2 p3 p4 (if p5 = 0 then (0 : Int32) else (1 : Int32))) ∧ True

set_option maxRecDepth 100000 in
set_option maxHeartbeats 8000000 in
theorem c_law_0 {p : Program} {l : Launch} {e : Env} {s : State} {m : MethodId} {args : Array Value} {below : List Frame} {meth : Method} {c : Code} {H : Heap} {locs : List Loc} {cs ss : Nat} {Q : State → Prop} {D : va_G} {q : Nat → ClassId} {A : Nat → Prop} {b L : Nat} {xs : Nat → Int32} {ls : Array Slot} (h aw av ao ad : Nat) (kr kt km : Nat → Nat) (x : XS) (w : WS) (v : WS) (r : RS) (t : TS) (g : MS) (fo : (Nat → Int64)) (fd : (Nat → UInt64)) (p1 p2 p3 p4 p5 i : Int32) (N : Nat) (F : XS → WS → WS → RS → TS → MS → (Nat → Int64) → (Nat → UInt64) → Int32) (hstk : l.stackTraces = false) (fx : FX p s m args c RL code 9 D q) (hSX : SX s) (hSZ0 : SZ A s s.heap) (hX : va_X b L xs s s.heap) (hbl : b < s.heap.size) (hbA : ¬ A b) (hA : ∀ a, s.heap.size ≤ a → A a) (hD : ∀ (x : XS) (w : WS) (v : WS) (r : RS) (t : TS) (g : MS) (fo : (Nat → Int64)) (fd : (Nat → UInt64)), va_D A (cLaw h aw av kr kt km ao ad q x w v r t g fo fd)) (hv1 : vp_in (i + (1 : Int32)) L) (hp1 : xs (i + (1 : Int32)).toNatClampNeg = p1) (hv2 : vp_in (i + (2 : Int32)) L) (hp2 : xs (i + (2 : Int32)).toNatClampNeg = p2) (hv3 : vp_in (i + (3 : Int32)) L) (hp3 : xs (i + (3 : Int32)).toNatClampNeg = p3) (hv4 : vp_in (i + (4 : Int32)) L) (hp4 : xs (i + (4 : Int32)).toNatClampNeg = p4) (hv5 : vp_in (i + (5 : Int32)) L) (hp5 : xs (i + (5 : Int32)).toNatClampNeg = p5) (hcs : cs + 1 ≤ room_1.cells ∧ ss + 6 ≤ room_1.slots) (hok : ok_law_0 g p1 p2 p3 p4 p5) (hT : f_law_0 F x w v r t g fo fd p1 p2 p3 p4 p5 = 1)
    (hrec : ∀ (x : XS) (w : WS) (v : WS) (r : RS) (t : TS) (g : MS) (fo : (Nat → Int64)) (fd : (Nat → UInt64)) (H : Heap) (locs : List Loc) (ls : Array Slot), F x w v r t g fo fd = 1 → va_P D vwCl (cLaw h aw av kr kt km ao ad q x w v r t g fo fd) H → va_S A s.heap H locs → lv_has ls 9 [(0, .ref b), (1, .ref h), (2, .ref (km 0)), (3, .ref ao), (4, .ref ad), (5, .int i)] → W p l e room_1 s m args below meth c H locs (cs + 1) (ss + 6) Q (F0 m 1402 ls []))
    (hP : va_P D vwCl (cLaw h aw av kr kt km ao ad q x w v r t g fo fd) H) (hS : va_S A s.heap H locs) (hl : lv_has ls 9 [(0, .ref b), (1, .ref h), (2, .ref (km 0)), (3, .ref ao), (4, .ref ad), (5, .int i)]) : W p l e room_1 s m args below meth c H locs cs ss Q (F0 m 148 ls []) := by
  have hx := fx.1
  have hb := fx.2.1
  have ht : f_law_0 F x w v r t g fo fd p1 p2 p3 p4 p5 = f_law_0 F x w v r t g fo fd p1 p2 p3 p4 p5 := rfl
  simp only [ok_law_0] at hok
  refine lv_aload_n hx hb dL_law_148 rfl (lv_at hl 1 rfl) ?_
  refine lv_aload_n hx hb dL_law_149 rfl (lv_at hl 0 rfl) ?_
  refine lv_iload hx hb dL_law_150 (lv_at hl 5 rfl) ?_
  refine lv_iconst (v := 1) hx hb dL_law_152 (by decide) ?_
  refine lv_iadd hx hb dL_law_153 ?_
  refine sld hx hb hX hbl hbA hS hv1 hp1 dL_law_154 ?_
  refine lv_aload_n hx hb dL_law_155 rfl (lv_at hl 0 rfl) ?_
  refine lv_iload hx hb dL_law_156 (lv_at hl 5 rfl) ?_
  refine lv_iconst (v := 2) hx hb dL_law_158 (by decide) ?_
  refine lv_iadd hx hb dL_law_159 ?_
  refine sld hx hb hX hbl hbA hS hv2 hp2 dL_law_160 ?_
  refine lv_aload_n hx hb dL_law_161 rfl (lv_at hl 0 rfl) ?_
  refine lv_iload hx hb dL_law_162 (lv_at hl 5 rfl) ?_
  refine lv_iconst (v := 3) hx hb dL_law_164 (by decide) ?_
  refine lv_iadd hx hb dL_law_165 ?_
  refine sld hx hb hX hbl hbA hS hv3 hp3 dL_law_166 ?_
  refine lv_aload_n hx hb dL_law_167 rfl (lv_at hl 0 rfl) ?_
  refine lv_iload hx hb dL_law_168 (lv_at hl 5 rfl) ?_
  refine lv_iconst (v := 4) hx hb dL_law_170 (by decide) ?_
  refine lv_iadd hx hb dL_law_171 ?_
  refine sld hx hb hX hbl hbA hS hv4 hp4 dL_law_172 ?_
  refine lv_aload_n hx hb dL_law_173 rfl (lv_at hl 0 rfl) ?_
  refine lv_iload hx hb dL_law_174 (lv_at hl 5 rfl) ?_
  refine lv_iconst (v := 5) hx hb dL_law_176 (by decide) ?_
  refine lv_iadd hx hb dL_law_177 ?_
  refine sld hx hb hX hbl hbA hS hv5 hp5 dL_law_178 ?_
  suffices K : ∀ (v2 : Int32), ∀ (H : Heap) (locs : List Loc) (ls : Array Slot), v2 = (if p5 = 0 then (0 : Int32) else (1 : Int32)) → va_P D vwCl (cLaw h aw av kr kt km ao ad q x w v r t g fo fd) H → va_S A s.heap H locs → lv_has ls 9 [(0, .ref b), (1, .ref h), (2, .ref (km 0)), (3, .ref ao), (4, .ref ad), (5, .int i)] → W p l e room_1 s m args below meth c H locs cs ss Q (F0 m 187 ls [.int v2, .int p4, .int p3, .int p2, .int p1, .ref h]) by
    refine lv_if_eq (tgt := 186) hx hb dL_law_179 (by decide) (fun c1 => ?_) (fun c1 => ?_)
    · refine lv_iconst (v := 0) hx hb dL_law_186 (by decide) ?_
      exact K (0 : Int32) H locs ls (by simp only [if_pos c1]) hP hS (lv_sub hl [0, 1, 2, 3, 4, 5] rfl)
    · refine lv_iconst (v := 1) hx hb dL_law_182 (by decide) ?_
      refine lv_goto (tgt := 187) hx hb dL_law_183 (by decide) ?_
      exact K (1 : Int32) H locs ls (by simp only [if_neg c1]) hP hS (lv_sub hl [0, 1, 2, 3, 4, 5] rfl)
  intro v2 H locs ls hvv2 hP hS hl
  subst hvv2
  refine kW1_i (wrun fx hSX (SZ.kept hSZ0 hS.2.1) (As := [.ref h, .int p1, .int p2, .int p3, .int p4, .int (if p5 = 0 then (0 : Int32) else (1 : Int32))]) (rest := []) (c_L_layer l D q H.size h aw av kr kt x w v r t p1 p2 p3 p4 (if p5 = 0 then (0 : Int32) else (1 : Int32)) hstk) lk_L_88 ⟨Nat.le_of_ble_eq_true rfl, Nat.le_of_ble_eq_true rfl⟩ ⟨rfl, rfl⟩ hP (hD _ _ _ _ _ _ _ _) hS hA [0, 1, 2, 3, 4, 5, 6, 7, 8, 9, 10, 11, 12, 13] rfl rfl rfl hl.1 rfl (Nat.le_of_ble_eq_true rfl) dL_law_187 hcs) hP (hD _ _ _ _ _ _ _ _) hS hA [0, 1, 2, 3, 4, 5, 6, 7, 8, 9, 10, 11, 12, 13] rfl (fun _ => rfl) (fun r5 u3 H locs hw4 hP hS => ?_)
  have hP : va_P D vwCl (cLaw h aw av kr kt km ao ad q x w v u3 t g fo fd) H := hP
  try simp only [hw4] at hok
  refine lv_istore (lv' := [(6, .int r5), (0, .ref b), (1, .ref h), (2, .ref (km 0)), (3, .ref ao), (4, .ref ad), (5, .int i)]) hx hb dL_law_190 hl (by decide) rfl (fun ls hl => ?_)
  refine lv_aload_n hx hb dL_law_192 rfl (lv_at hl 3 rfl) ?_
  refine lv_aload_n hx hb dL_law_193 rfl (lv_at hl 1 rfl) ?_
  refine lv_iload hx hb dL_law_194 (lv_at hl 6 rfl) ?_
  refine lv_iconst (v := 1) hx hb dL_law_196 (by decide) ?_
  refine lv_iadd hx hb dL_law_197 ?_
  refine sld hx hb hX hbl hbA hS hv1 hp1 dL_law_198 ?_
  refine lv_aload_n hx hb dL_law_199 rfl (lv_at hl 1 rfl) ?_
  refine lv_iload hx hb dL_law_200 (lv_at hl 6 rfl) ?_
  refine lv_iconst (v := 2) hx hb dL_law_202 (by decide) ?_
  refine lv_iadd hx hb dL_law_203 ?_
  refine sld hx hb hX hbl hbA hS hv2 hp2 dL_law_204 ?_
  refine lv_aload_n hx hb dL_law_205 rfl (lv_at hl 1 rfl) ?_
  refine lv_iload hx hb dL_law_206 (lv_at hl 6 rfl) ?_
  refine lv_iconst (v := 3) hx hb dL_law_208 (by decide) ?_
  refine lv_iadd hx hb dL_law_209 ?_
  refine sld hx hb hX hbl hbA hS hv3 hp3 dL_law_210 ?_
  refine lv_aload_n hx hb dL_law_211 rfl (lv_at hl 1 rfl) ?_
  refine lv_iload hx hb dL_law_212 (lv_at hl 6 rfl) ?_
  refine lv_iconst (v := 4) hx hb dL_law_214 (by decide) ?_
  refine lv_iadd hx hb dL_law_215 ?_
  refine sld hx hb hX hbl hbA hS hv4 hp4 dL_law_216 ?_
  refine lv_aload_n hx hb dL_law_217 rfl (lv_at hl 1 rfl) ?_
  refine lv_iload hx hb dL_law_218 (lv_at hl 6 rfl) ?_
  refine lv_iconst (v := 5) hx hb dL_law_220 (by decide) ?_
  refine lv_iadd hx hb dL_law_221 ?_
  refine sld hx hb hX hbl hbA hS hv5 hp5 dL_law_222 ?_
  suffices K : ∀ (v7 : Int32), ∀ (H : Heap) (locs : List Loc) (ls : Array Slot), v7 = (if p5 = 0 then (0 : Int32) else (1 : Int32)) → va_P D vwCl (cLaw h aw av kr kt km ao ad q x w v u3 t g fo fd) H → va_S A s.heap H locs → lv_has ls 9 [(0, .ref b), (1, .ref h), (2, .ref (km 0)), (3, .ref ao), (4, .ref ad), (5, .int i), (6, .int r5)] → W p l e room_1 s m args below meth c H locs (cs + 1) (ss + 6) Q (F0 m 231 ls [.int v7, .int p4, .int p3, .int p2, .int p1, .ref (km 0)]) by
    refine lv_if_eq (tgt := 230) hx hb dL_law_223 (by decide) (fun c6 => ?_) (fun c6 => ?_)
    · refine lv_iconst (v := 0) hx hb dL_law_230 (by decide) ?_
      exact K (0 : Int32) H locs ls (by simp only [if_pos c6, hw4]) hP hS (lv_sub hl [1, 2, 3, 4, 5, 6, 0] rfl)
    · refine lv_iconst (v := 1) hx hb dL_law_226 (by decide) ?_
      refine lv_goto (tgt := 231) hx hb dL_law_227 (by decide) ?_
      exact K (1 : Int32) H locs ls (by simp only [if_neg c6, hw4]) hP hS (lv_sub hl [1, 2, 3, 4, 5, 6, 0] rfl)
  intro v7 H locs ls hvv7 hP hS hl
  subst hvv7
  obtain ⟨hk8, hok⟩ := hok
  refine kW_v (runV fx (As := [.int p1, .int p2, .int p3, .int p4, .int (if p5 = 0 then (0 : Int32) else (1 : Int32))]) (rest := []) (c_X4_layer l D q H.size km g p1 p2 p3 p4 (if p5 = 0 then (0 : Int32) else (1 : Int32)) hk8) lk_L_93 ⟨Nat.le_of_ble_eq_true rfl, Nat.le_of_ble_eq_true rfl⟩ ⟨rfl, rfl⟩ hP (hD _ _ _ _ _ _ _ _) [14, 15, 16, 17, 18, 19, 20, 21, 22, 23, 24] rfl rfl (ci := 4) rfl rfl rfl hl.1 rfl (Nat.le_of_ble_eq_true rfl) dL_law_231 ⟨by have := hcs.1; omega, by have := hcs.2; omega⟩) hP (hD _ _ _ _ _ _ _ _) hS hA [14, 15, 16, 17, 18, 19, 20, 21, 22, 23, 24] rfl (fun _ => rfl) (fun u9 H locs hw10 hP hS => ?_)
  have hP : va_P D vwCl (cLaw h aw av kr kt km ao ad q x w v u3 t u9 fo fd) H := hP
  try simp only [hw10] at hok
  refine lv_aload_n hx hb dL_law_234 rfl (lv_at hl 2 rfl) ?_
  refine kR_i (runV fx (As := []) (rest := []) (c_X4_thrown l D q H.size km u9) lk_L_94 ⟨Nat.le_of_ble_eq_true rfl, Nat.le_of_ble_eq_true rfl⟩ ⟨rfl, rfl⟩ hP (hD _ _ _ _ _ _ _ _) [14, 15, 16, 17, 18, 19, 20, 21, 22, 23, 24] rfl rfl (ci := 4) rfl rfl rfl hl.1 rfl (Nat.le_of_ble_eq_true rfl) dL_law_235 ⟨by have := hcs.1; omega, by have := hcs.2; omega⟩) hP hS (fun r11 _ H locs hr12 hP hS => ?_)
  subst hr12
  refine lv_iload hx hb dL_law_238 (lv_at hl 6 rfl) ?_
  refine lv_icmp_eq (tgt := 245) hx hb dL_law_240 (by decide) (fun c13 => ?_) (fun c13 => ?_)
  · refine lv_goto (tgt := 1402) hx hb dL_law_245 (by decide) ?_
    exact hrec x w v u3 t u9 fo fd H locs ls ((show f_law_0 F x w v r t g fo fd p1 p2 p3 p4 p5 = F x w v u3 t u9 fo fd from ht.trans (by first | (simp only [f_law_0, if_pos c13, hw4, hw10]; done) | (simp only [f_law_0, hw4, hw10]; simp only [if_pos c13]))).symm.trans hT) hP hS (lv_sub hl [0, 1, 2, 3, 4, 5] rfl)
  · refine lv_iconst (v := 0) hx hb dL_law_243 (by decide) ?_
    exact absurd ((show f_law_0 F x w v r t g fo fd p1 p2 p3 p4 p5 = (0 : Int32) from ht.trans (by first | (simp only [f_law_0, if_neg c13, hw4, hw10]; done) | (simp only [f_law_0, hw4, hw10]; simp only [if_neg c13]))).symm.trans hT) (by decide)

def f_L_law_b301 (x : XS) (w : WS) (v : WS) (r : RS) (t : TS) (g : MS) (fo : (Nat → Int64)) (fd : (Nat → UInt64)) (F : XS → WS → WS → RS → TS → MS → (Nat → Int64) → (Nat → UInt64) → Int32) (p1 : Int32) : Int32 :=
  F ((f_L_mud x w fo p1).2).1 ((f_L_mud x w fo p1).2).2.1 v r t ((f_X4_mud g p1).2) ((f_L_mud x w fo p1).2).2.2 fd

def f_law_1 (F : XS → WS → WS → RS → TS → MS → (Nat → Int64) → (Nat → UInt64) → Int32) (x : XS) (w : WS) (v : WS) (r : RS) (t : TS) (g : MS) (fo : (Nat → Int64)) (fd : (Nat → UInt64)) (p1 : Int32) : Int32 :=
  if (f_X4_thrown ((f_X4_mud g p1).2)) = (f_L_mud x w fo p1).1 then (if (f_L_mud x w fo p1).1 = 0 then (if (lg_cmp (((f_L_mud x w fo p1).2).2.2 (0 : Int32).toNatClampNeg) (f_X4_mud g p1).1.toInt64) = 0 then (f_L_law_b301 x w v r t g fo fd F p1) else (0 : Int32)) else (f_L_law_b301 x w v r t g fo fd F p1)) else (0 : Int32)

set_option maxRecDepth 100000 in
set_option maxHeartbeats 8000000 in
theorem c_law_1 {p : Program} {l : Launch} {e : Env} {s : State} {m : MethodId} {args : Array Value} {below : List Frame} {meth : Method} {c : Code} {H : Heap} {locs : List Loc} {cs ss : Nat} {Q : State → Prop} {D : va_G} {q : Nat → ClassId} {A : Nat → Prop} {b L : Nat} {xs : Nat → Int32} {ls : Array Slot} (h aw av ao ad : Nat) (kr kt km : Nat → Nat) (x : XS) (w : WS) (v : WS) (r : RS) (t : TS) (g : MS) (fo : (Nat → Int64)) (fd : (Nat → UInt64)) (p1 p2 p3 p4 p5 i : Int32) (N : Nat) (F : XS → WS → WS → RS → TS → MS → (Nat → Int64) → (Nat → UInt64) → Int32) (hstk : l.stackTraces = false) (fx : FX p s m args c RL code 9 D q) (hSX : SX s) (hSZ0 : SZ A s s.heap) (hX : va_X b L xs s s.heap) (hbl : b < s.heap.size) (hbA : ¬ A b) (hA : ∀ a, s.heap.size ≤ a → A a) (hD : ∀ (x : XS) (w : WS) (v : WS) (r : RS) (t : TS) (g : MS) (fo : (Nat → Int64)) (fd : (Nat → UInt64)), va_D A (cLaw h aw av kr kt km ao ad q x w v r t g fo fd)) (hv1 : vp_in (i + (1 : Int32)) L) (hp1 : xs (i + (1 : Int32)).toNatClampNeg = p1) (hv2 : vp_in (i + (2 : Int32)) L) (hp2 : xs (i + (2 : Int32)).toNatClampNeg = p2) (hv3 : vp_in (i + (3 : Int32)) L) (hp3 : xs (i + (3 : Int32)).toNatClampNeg = p3) (hv4 : vp_in (i + (4 : Int32)) L) (hp4 : xs (i + (4 : Int32)).toNatClampNeg = p4) (hv5 : vp_in (i + (5 : Int32)) L) (hp5 : xs (i + (5 : Int32)).toNatClampNeg = p5) (hcs : cs + 1 ≤ room_1.cells ∧ ss + 6 ≤ room_1.slots) (hT : f_law_1 F x w v r t g fo fd p1 = 1)
    (hrec : ∀ (x : XS) (w : WS) (v : WS) (r : RS) (t : TS) (g : MS) (fo : (Nat → Int64)) (fd : (Nat → UInt64)) (H : Heap) (locs : List Loc) (ls : Array Slot), F x w v r t g fo fd = 1 → va_P D vwCl (cLaw h aw av kr kt km ao ad q x w v r t g fo fd) H → va_S A s.heap H locs → lv_has ls 9 [(0, .ref b), (1, .ref h), (2, .ref (km 0)), (3, .ref ao), (4, .ref ad), (5, .int i)] → W p l e room_1 s m args below meth c H locs (cs + 1) (ss + 6) Q (F0 m 1402 ls []))
    (hP : va_P D vwCl (cLaw h aw av kr kt km ao ad q x w v r t g fo fd) H) (hS : va_S A s.heap H locs) (hl : lv_has ls 9 [(0, .ref b), (1, .ref h), (2, .ref (km 0)), (3, .ref ao), (4, .ref ad), (5, .int i)]) : W p l e room_1 s m args below meth c H locs cs ss Q (F0 m 248 ls []) := by
  have hx := fx.1
  have hb := fx.2.1
  have ht : f_law_1 F x w v r t g fo fd p1 = f_law_1 F x w v r t g fo fd p1 := rfl
  refine lv_aload_n hx hb dL_law_248 rfl (lv_at hl 1 rfl) ?_
  refine lv_aload_n hx hb dL_law_249 rfl (lv_at hl 0 rfl) ?_
  refine lv_iload hx hb dL_law_250 (lv_at hl 5 rfl) ?_
  refine lv_iconst (v := 1) hx hb dL_law_252 (by decide) ?_
  refine lv_iadd hx hb dL_law_253 ?_
  refine sld hx hb hX hbl hbA hS hv1 hp1 dL_law_254 ?_
  refine lv_aload_n hx hb dL_law_255 rfl (lv_at hl 3 rfl) ?_
  refine kW1_i (wrun fx hSX (SZ.kept hSZ0 hS.2.1) (As := [.ref h, .int p1, .ref ao]) (rest := []) (c_L_mud l D q H.size h aw av kr kt ao x w v r t fo p1 hstk) lk_L_97 ⟨Nat.le_of_ble_eq_true rfl, Nat.le_of_ble_eq_true rfl⟩ ⟨rfl, rfl⟩ hP (hD _ _ _ _ _ _ _ _) hS hA [0, 1, 2, 3, 4, 5, 6, 7, 8, 9, 10, 11, 12, 13, 25] rfl rfl rfl hl.1 rfl (Nat.le_of_ble_eq_true rfl) dL_law_256 hcs) hP (hD _ _ _ _ _ _ _ _) hS hA [0, 1, 2, 3, 4, 5, 6, 7, 8, 9, 10, 11, 12, 13, 25] rfl (fun _ => rfl) (fun r3 u1 H locs hw2 hP hS => ?_)
  have hP : va_P D vwCl (cLaw h aw av kr kt km ao ad q u1.1 u1.2.1 v r t g u1.2.2 fd) H := hP
  refine lv_istore (lv' := [(6, .int r3), (0, .ref b), (1, .ref h), (2, .ref (km 0)), (3, .ref ao), (4, .ref ad), (5, .int i)]) hx hb dL_law_259 hl (by decide) rfl (fun ls hl => ?_)
  refine lv_aload_n hx hb dL_law_261 rfl (lv_at hl 3 rfl) ?_
  refine lv_aload_n hx hb dL_law_262 rfl (lv_at hl 1 rfl) ?_
  refine lv_iload hx hb dL_law_263 (lv_at hl 6 rfl) ?_
  refine lv_iconst (v := 1) hx hb dL_law_265 (by decide) ?_
  refine lv_iadd hx hb dL_law_266 ?_
  refine sld hx hb hX hbl hbA hS hv1 hp1 dL_law_267 ?_
  refine kW_i (runV fx (As := [.int p1]) (rest := []) (c_X4_mud l D q H.size km g p1) lk_L_100 ⟨Nat.le_of_ble_eq_true rfl, Nat.le_of_ble_eq_true rfl⟩ ⟨rfl, rfl⟩ hP (hD _ _ _ _ _ _ _ _) [14, 15, 16, 17, 18, 19, 20, 21, 22, 23, 24] rfl rfl (ci := 4) rfl rfl rfl hl.1 rfl (Nat.le_of_ble_eq_true rfl) dL_law_268 ⟨by have := hcs.1; omega, by have := hcs.2; omega⟩) hP (hD _ _ _ _ _ _ _ _) hS hA [14, 15, 16, 17, 18, 19, 20, 21, 22, 23, 24] rfl (fun _ => rfl) (fun r6 u4 H locs hw5 hP hS => ?_)
  have hP : va_P D vwCl (cLaw h aw av kr kt km ao ad q u1.1 u1.2.1 v r t u4 u1.2.2 fd) H := hP
  refine lv_istore (lv' := [(7, .int r6), (6, .int r3), (0, .ref b), (1, .ref h), (2, .ref (km 0)), (3, .ref ao), (4, .ref ad), (5, .int i)]) hx hb dL_law_271 hl (by decide) rfl (fun ls hl => ?_)
  refine lv_aload_n hx hb dL_law_273 rfl (lv_at hl 4 rfl) ?_
  refine kR_i (runV fx (As := []) (rest := []) (c_X4_thrown l D q H.size km u4) lk_L_94 ⟨Nat.le_of_ble_eq_true rfl, Nat.le_of_ble_eq_true rfl⟩ ⟨rfl, rfl⟩ hP (hD _ _ _ _ _ _ _ _) [14, 15, 16, 17, 18, 19, 20, 21, 22, 23, 24] rfl rfl (ci := 4) rfl rfl rfl hl.1 rfl (Nat.le_of_ble_eq_true rfl) dL_law_274 ⟨by have := hcs.1; omega, by have := hcs.2; omega⟩) hP hS (fun r7 _ H locs hr8 hP hS => ?_)
  subst hr8
  refine lv_iload hx hb dL_law_277 (lv_at hl 1 rfl) ?_
  refine lv_icmp_eq (tgt := 284) hx hb dL_law_279 (by decide) (fun c9 => ?_) (fun c9 => ?_)
  · refine lv_iload hx hb dL_law_284 (lv_at hl 1 rfl) ?_
    have K301 : ∀ (H : Heap) (locs : List Loc) (ls : Array Slot), f_law_1 F x w v r t g fo fd p1 = f_L_law_b301 x w v r t g fo fd F p1 → va_P D vwCl (cLaw h aw av kr kt km ao ad q u1.1 u1.2.1 v r t u4 u1.2.2 fd) H → va_S A s.heap H locs → lv_has ls 9 [(0, .ref b), (1, .ref h), (2, .ref (km 0)), (3, .ref ao), (4, .ref ad), (5, .int i)] → W p l e room_1 s m args below meth c H locs (cs + 1) (ss + 6) Q (F0 m 301 ls []) := by
      intro H locs ls ht hP hS hl
      refine lv_goto (tgt := 1402) hx hb dL_law_301 (by decide) ?_
      exact hrec u1.1 u1.2.1 v r t u4 u1.2.2 fd H locs ls ((show f_law_1 F x w v r t g fo fd p1 = F u1.1 u1.2.1 v r t u4 u1.2.2 fd from ht.trans (by simp only [f_L_law_b301, hw2, hw5])).symm.trans hT) hP hS (lv_sub hl [0, 1, 2, 3, 4, 5] rfl)
    refine lv_if_ne (tgt := 301) hx hb dL_law_286 (by decide) (fun c12 => ?_) (fun c12 => ?_)
    · exact K301 H locs ls (ht.trans (by first | (simp only [f_law_1, if_pos c9, if_neg c12, hw2, hw5]; done) | (simp only [f_law_1, hw2, hw5]; simp only [if_pos c9, if_neg c12]))) hP hS (lv_sub hl [2, 3, 4, 5, 6, 7] rfl)
    · refine lv_aload_n hx hb dL_law_289 rfl (lv_at hl 5 rfl) ?_
      refine lv_iconst (v := 0) hx hb dL_law_290 (by decide) ?_
      refine va_lald hx hb fx.2.2.2.2.2.1 hP 25 2 (f := u1.2.2) rfl rfl (by unfold vp_in; decide) dL_law_291 ?_
      refine lv_iload hx hb dL_law_292 (lv_at hl 0 rfl) ?_
      refine lv_i2l (v := r6.toInt64) hx hb dL_law_294 rfl ?_
      refine W.lcmp hx hb dL_law_295 ?_
      refine lv_if_eq (tgt := 301) hx hb dL_law_296 (by decide) (fun c13 => ?_) (fun c13 => ?_)
      · exact K301 H locs ls (ht.trans (by first | (simp only [f_law_1, if_pos c9, if_pos c12, if_pos c13, hw2, hw5]; done) | (simp only [f_law_1, hw2, hw5]; simp only [if_pos c9, if_pos c12, if_pos c13]))) hP hS (lv_sub hl [2, 3, 4, 5, 6, 7] rfl)
      · refine lv_iconst (v := 0) hx hb dL_law_299 (by decide) ?_
        exact absurd ((show f_law_1 F x w v r t g fo fd p1 = (0 : Int32) from ht.trans (by first | (simp only [f_law_1, if_pos c9, if_pos c12, if_neg c13, hw2, hw5]; done) | (simp only [f_law_1, hw2, hw5]; simp only [if_pos c9, if_pos c12, if_neg c13]))).symm.trans hT) (by decide)
  · refine lv_iconst (v := 0) hx hb dL_law_282 (by decide) ?_
    exact absurd ((show f_law_1 F x w v r t g fo fd p1 = (0 : Int32) from ht.trans (by first | (simp only [f_law_1, if_neg c9, hw2, hw5]; done) | (simp only [f_law_1, hw2, hw5]; simp only [if_neg c9]))).symm.trans hT) (by decide)

def f_L_law_b357 (N : Nat) (x : XS) (w : WS) (v : WS) (r : RS) (t : TS) (g : MS) (fo : (Nat → Int64)) (fd : (Nat → UInt64)) (F : XS → WS → WS → RS → TS → MS → (Nat → Int64) → (Nat → UInt64) → Int32) (p1 : Int32) : Int32 :=
  F x ((f_L_drill N x w r t fo p1).2).1 v r t ((f_X4_drill N g p1).2) ((f_L_drill N x w r t fo p1).2).2 fd

def f_law_2 (N : Nat) (F : XS → WS → WS → RS → TS → MS → (Nat → Int64) → (Nat → UInt64) → Int32) (x : XS) (w : WS) (v : WS) (r : RS) (t : TS) (g : MS) (fo : (Nat → Int64)) (fd : (Nat → UInt64)) (p1 : Int32) : Int32 :=
  if (f_X4_thrown ((f_X4_drill N g p1).2)) = (f_L_drill N x w r t fo p1).1 then (if (f_L_drill N x w r t fo p1).1 = 0 then (if (lg_cmp (((f_L_drill N x w r t fo p1).2).2 (0 : Int32).toNatClampNeg) (f_X4_drill N g p1).1.toInt64) = 0 then (f_L_law_b357 N x w v r t g fo fd F p1) else (0 : Int32)) else (f_L_law_b357 N x w v r t g fo fd F p1)) else (0 : Int32)

def ok_law_2 (N : Nat) (x : XS) (w : WS) (r : RS) (t : TS) (g : MS) (p1 : Int32) : Prop :=
  (ok_L_drill N x w r t p1) ∧ ((ok_X4_drill N g p1) ∧ True)

set_option maxRecDepth 100000 in
set_option maxHeartbeats 8000000 in
theorem c_law_2 {p : Program} {l : Launch} {e : Env} {s : State} {m : MethodId} {args : Array Value} {below : List Frame} {meth : Method} {c : Code} {H : Heap} {locs : List Loc} {cs ss : Nat} {Q : State → Prop} {D : va_G} {q : Nat → ClassId} {A : Nat → Prop} {b L : Nat} {xs : Nat → Int32} {ls : Array Slot} (h aw av ao ad : Nat) (kr kt km : Nat → Nat) (x : XS) (w : WS) (v : WS) (r : RS) (t : TS) (g : MS) (fo : (Nat → Int64)) (fd : (Nat → UInt64)) (p1 p2 p3 p4 p5 i : Int32) (N : Nat) (F : XS → WS → WS → RS → TS → MS → (Nat → Int64) → (Nat → UInt64) → Int32) (hstk : l.stackTraces = false) (fx : FX p s m args c RL code 9 D q) (hSX : SX s) (hSZ0 : SZ A s s.heap) (hX : va_X b L xs s s.heap) (hbl : b < s.heap.size) (hbA : ¬ A b) (hA : ∀ a, s.heap.size ≤ a → A a) (hD : ∀ (x : XS) (w : WS) (v : WS) (r : RS) (t : TS) (g : MS) (fo : (Nat → Int64)) (fd : (Nat → UInt64)), va_D A (cLaw h aw av kr kt km ao ad q x w v r t g fo fd)) (hv1 : vp_in (i + (1 : Int32)) L) (hp1 : xs (i + (1 : Int32)).toNatClampNeg = p1) (hv2 : vp_in (i + (2 : Int32)) L) (hp2 : xs (i + (2 : Int32)).toNatClampNeg = p2) (hv3 : vp_in (i + (3 : Int32)) L) (hp3 : xs (i + (3 : Int32)).toNatClampNeg = p3) (hv4 : vp_in (i + (4 : Int32)) L) (hp4 : xs (i + (4 : Int32)).toNatClampNeg = p4) (hv5 : vp_in (i + (5 : Int32)) L) (hp5 : xs (i + (5 : Int32)).toNatClampNeg = p5) (hcs : cs + 1 ≤ room_1.cells ∧ ss + 6 ≤ room_1.slots) (hok : ok_law_2 N x w r t g p1) (hT : f_law_2 N F x w v r t g fo fd p1 = 1)
    (hrec : ∀ (x : XS) (w : WS) (v : WS) (r : RS) (t : TS) (g : MS) (fo : (Nat → Int64)) (fd : (Nat → UInt64)) (H : Heap) (locs : List Loc) (ls : Array Slot), F x w v r t g fo fd = 1 → va_P D vwCl (cLaw h aw av kr kt km ao ad q x w v r t g fo fd) H → va_S A s.heap H locs → lv_has ls 9 [(0, .ref b), (1, .ref h), (2, .ref (km 0)), (3, .ref ao), (4, .ref ad), (5, .int i)] → W p l e room_1 s m args below meth c H locs (cs + 1) (ss + 6) Q (F0 m 1402 ls []))
    (hP : va_P D vwCl (cLaw h aw av kr kt km ao ad q x w v r t g fo fd) H) (hS : va_S A s.heap H locs) (hl : lv_has ls 9 [(0, .ref b), (1, .ref h), (2, .ref (km 0)), (3, .ref ao), (4, .ref ad), (5, .int i)]) : W p l e room_1 s m args below meth c H locs cs ss Q (F0 m 304 ls []) := by
  have hx := fx.1
  have hb := fx.2.1
  have ht : f_law_2 N F x w v r t g fo fd p1 = f_law_2 N F x w v r t g fo fd p1 := rfl
  simp only [ok_law_2] at hok
  refine lv_aload_n hx hb dL_law_304 rfl (lv_at hl 1 rfl) ?_
  refine lv_aload_n hx hb dL_law_305 rfl (lv_at hl 0 rfl) ?_
  refine lv_iload hx hb dL_law_306 (lv_at hl 5 rfl) ?_
  refine lv_iconst (v := 1) hx hb dL_law_308 (by decide) ?_
  refine lv_iadd hx hb dL_law_309 ?_
  refine sld hx hb hX hbl hbA hS hv1 hp1 dL_law_310 ?_
  refine lv_aload_n hx hb dL_law_311 rfl (lv_at hl 3 rfl) ?_
  obtain ⟨hk1, hok⟩ := hok
  refine kW1_i (wrun fx hSX (SZ.kept hSZ0 hS.2.1) (As := [.ref h, .int p1, .ref ao]) (rest := []) (c_L_drill l D q H.size h aw av kr kt ao x w v r t fo p1 N hk1 hstk) lk_L_101 ⟨Nat.le_of_ble_eq_true rfl, Nat.le_of_ble_eq_true rfl⟩ ⟨rfl, rfl⟩ hP (hD _ _ _ _ _ _ _ _) hS hA [0, 1, 2, 3, 4, 5, 6, 7, 8, 9, 10, 11, 12, 13, 25] rfl rfl rfl hl.1 rfl (Nat.le_of_ble_eq_true rfl) dL_law_312 hcs) hP (hD _ _ _ _ _ _ _ _) hS hA [0, 1, 2, 3, 4, 5, 6, 7, 8, 9, 10, 11, 12, 13, 25] rfl (fun _ => rfl) (fun r4 u2 H locs hw3 hP hS => ?_)
  have hP : va_P D vwCl (cLaw h aw av kr kt km ao ad q x u2.1 v r t g u2.2 fd) H := hP
  try simp only [hw3] at hok
  refine lv_istore (lv' := [(6, .int r4), (0, .ref b), (1, .ref h), (2, .ref (km 0)), (3, .ref ao), (4, .ref ad), (5, .int i)]) hx hb dL_law_315 hl (by decide) rfl (fun ls hl => ?_)
  refine lv_aload_n hx hb dL_law_317 rfl (lv_at hl 3 rfl) ?_
  refine lv_aload_n hx hb dL_law_318 rfl (lv_at hl 1 rfl) ?_
  refine lv_iload hx hb dL_law_319 (lv_at hl 6 rfl) ?_
  refine lv_iconst (v := 1) hx hb dL_law_321 (by decide) ?_
  refine lv_iadd hx hb dL_law_322 ?_
  refine sld hx hb hX hbl hbA hS hv1 hp1 dL_law_323 ?_
  obtain ⟨hk5, hok⟩ := hok
  refine kW_i (runV fx (As := [.int p1]) (rest := []) (c_X4_drill l D q H.size km g p1 N hk5) lk_L_103 ⟨Nat.le_of_ble_eq_true rfl, Nat.le_of_ble_eq_true rfl⟩ ⟨rfl, rfl⟩ hP (hD _ _ _ _ _ _ _ _) [14, 15, 16, 17, 18, 19, 20, 21, 22, 23, 24] rfl rfl (ci := 4) rfl rfl rfl hl.1 rfl (Nat.le_of_ble_eq_true rfl) dL_law_324 ⟨by have := hcs.1; omega, by have := hcs.2; omega⟩) hP (hD _ _ _ _ _ _ _ _) hS hA [14, 15, 16, 17, 18, 19, 20, 21, 22, 23, 24] rfl (fun _ => rfl) (fun r8 u6 H locs hw7 hP hS => ?_)
  have hP : va_P D vwCl (cLaw h aw av kr kt km ao ad q x u2.1 v r t u6 u2.2 fd) H := hP
  try simp only [hw7] at hok
  refine lv_istore (lv' := [(7, .int r8), (6, .int r4), (0, .ref b), (1, .ref h), (2, .ref (km 0)), (3, .ref ao), (4, .ref ad), (5, .int i)]) hx hb dL_law_327 hl (by decide) rfl (fun ls hl => ?_)
  refine lv_aload_n hx hb dL_law_329 rfl (lv_at hl 4 rfl) ?_
  refine kR_i (runV fx (As := []) (rest := []) (c_X4_thrown l D q H.size km u6) lk_L_94 ⟨Nat.le_of_ble_eq_true rfl, Nat.le_of_ble_eq_true rfl⟩ ⟨rfl, rfl⟩ hP (hD _ _ _ _ _ _ _ _) [14, 15, 16, 17, 18, 19, 20, 21, 22, 23, 24] rfl rfl (ci := 4) rfl rfl rfl hl.1 rfl (Nat.le_of_ble_eq_true rfl) dL_law_330 ⟨by have := hcs.1; omega, by have := hcs.2; omega⟩) hP hS (fun r9 _ H locs hr10 hP hS => ?_)
  subst hr10
  refine lv_iload hx hb dL_law_333 (lv_at hl 1 rfl) ?_
  refine lv_icmp_eq (tgt := 340) hx hb dL_law_335 (by decide) (fun c11 => ?_) (fun c11 => ?_)
  · refine lv_iload hx hb dL_law_340 (lv_at hl 1 rfl) ?_
    have K357 : ∀ (H : Heap) (locs : List Loc) (ls : Array Slot), f_law_2 N F x w v r t g fo fd p1 = f_L_law_b357 N x w v r t g fo fd F p1 → va_P D vwCl (cLaw h aw av kr kt km ao ad q x u2.1 v r t u6 u2.2 fd) H → va_S A s.heap H locs → lv_has ls 9 [(0, .ref b), (1, .ref h), (2, .ref (km 0)), (3, .ref ao), (4, .ref ad), (5, .int i)] → W p l e room_1 s m args below meth c H locs (cs + 1) (ss + 6) Q (F0 m 357 ls []) := by
      intro H locs ls ht hP hS hl
      refine lv_goto (tgt := 1402) hx hb dL_law_357 (by decide) ?_
      exact hrec x u2.1 v r t u6 u2.2 fd H locs ls ((show f_law_2 N F x w v r t g fo fd p1 = F x u2.1 v r t u6 u2.2 fd from ht.trans (by simp only [f_L_law_b357, hw3, hw7])).symm.trans hT) hP hS (lv_sub hl [0, 1, 2, 3, 4, 5] rfl)
    refine lv_if_ne (tgt := 357) hx hb dL_law_342 (by decide) (fun c14 => ?_) (fun c14 => ?_)
    · exact K357 H locs ls (ht.trans (by first | (simp only [f_law_2, if_pos c11, if_neg c14, hw3, hw7]; done) | (simp only [f_law_2, hw3, hw7]; simp only [if_pos c11, if_neg c14]))) hP hS (lv_sub hl [2, 3, 4, 5, 6, 7] rfl)
    · refine lv_aload_n hx hb dL_law_345 rfl (lv_at hl 5 rfl) ?_
      refine lv_iconst (v := 0) hx hb dL_law_346 (by decide) ?_
      refine va_lald hx hb fx.2.2.2.2.2.1 hP 25 2 (f := u2.2) rfl rfl (by unfold vp_in; decide) dL_law_347 ?_
      refine lv_iload hx hb dL_law_348 (lv_at hl 0 rfl) ?_
      refine lv_i2l (v := r8.toInt64) hx hb dL_law_350 rfl ?_
      refine W.lcmp hx hb dL_law_351 ?_
      refine lv_if_eq (tgt := 357) hx hb dL_law_352 (by decide) (fun c15 => ?_) (fun c15 => ?_)
      · exact K357 H locs ls (ht.trans (by first | (simp only [f_law_2, if_pos c11, if_pos c14, if_pos c15, hw3, hw7]; done) | (simp only [f_law_2, hw3, hw7]; simp only [if_pos c11, if_pos c14, if_pos c15]))) hP hS (lv_sub hl [2, 3, 4, 5, 6, 7] rfl)
      · refine lv_iconst (v := 0) hx hb dL_law_355 (by decide) ?_
        exact absurd ((show f_law_2 N F x w v r t g fo fd p1 = (0 : Int32) from ht.trans (by first | (simp only [f_law_2, if_pos c11, if_pos c14, if_neg c15, hw3, hw7]; done) | (simp only [f_law_2, hw3, hw7]; simp only [if_pos c11, if_pos c14, if_neg c15]))).symm.trans hT) (by decide)
  · refine lv_iconst (v := 0) hx hb dL_law_338 (by decide) ?_
    exact absurd ((show f_law_2 N F x w v r t g fo fd p1 = (0 : Int32) from ht.trans (by first | (simp only [f_law_2, if_neg c11, hw3, hw7]; done) | (simp only [f_law_2, hw3, hw7]; simp only [if_neg c11]))).symm.trans hT) (by decide)

def f_L_law_b413 (N : Nat) (x : XS) (w : WS) (v : WS) (r : RS) (t : TS) (g : MS) (fo : (Nat → Int64)) (fd : (Nat → UInt64)) (F : XS → WS → WS → RS → TS → MS → (Nat → Int64) → (Nat → UInt64) → Int32) (p1 : Int32) : Int32 :=
  F x ((f_L_pass N w r fo p1).2).1 v r t ((f_X4_pass N g p1).2) ((f_L_pass N w r fo p1).2).2 fd

def f_law_3 (N : Nat) (F : XS → WS → WS → RS → TS → MS → (Nat → Int64) → (Nat → UInt64) → Int32) (x : XS) (w : WS) (v : WS) (r : RS) (t : TS) (g : MS) (fo : (Nat → Int64)) (fd : (Nat → UInt64)) (p1 : Int32) : Int32 :=
  if (f_X4_thrown ((f_X4_pass N g p1).2)) = (f_L_pass N w r fo p1).1 then (if (f_L_pass N w r fo p1).1 = 0 then (if (lg_cmp (((f_L_pass N w r fo p1).2).2 (0 : Int32).toNatClampNeg) (f_X4_pass N g p1).1.toInt64) = 0 then (f_L_law_b413 N x w v r t g fo fd F p1) else (0 : Int32)) else (f_L_law_b413 N x w v r t g fo fd F p1)) else (0 : Int32)

def ok_law_3 (N : Nat) (w : WS) (r : RS) (g : MS) (p1 : Int32) : Prop :=
  (ok_L_pass N w r p1) ∧ ((ok_X4_pass N g p1) ∧ True)

set_option maxRecDepth 100000 in
set_option maxHeartbeats 8000000 in
theorem c_law_3 {p : Program} {l : Launch} {e : Env} {s : State} {m : MethodId} {args : Array Value} {below : List Frame} {meth : Method} {c : Code} {H : Heap} {locs : List Loc} {cs ss : Nat} {Q : State → Prop} {D : va_G} {q : Nat → ClassId} {A : Nat → Prop} {b L : Nat} {xs : Nat → Int32} {ls : Array Slot} (h aw av ao ad : Nat) (kr kt km : Nat → Nat) (x : XS) (w : WS) (v : WS) (r : RS) (t : TS) (g : MS) (fo : (Nat → Int64)) (fd : (Nat → UInt64)) (p1 p2 p3 p4 p5 i : Int32) (N : Nat) (F : XS → WS → WS → RS → TS → MS → (Nat → Int64) → (Nat → UInt64) → Int32) (hstk : l.stackTraces = false) (fx : FX p s m args c RL code 9 D q) (hSX : SX s) (hSZ0 : SZ A s s.heap) (hX : va_X b L xs s s.heap) (hbl : b < s.heap.size) (hbA : ¬ A b) (hA : ∀ a, s.heap.size ≤ a → A a) (hD : ∀ (x : XS) (w : WS) (v : WS) (r : RS) (t : TS) (g : MS) (fo : (Nat → Int64)) (fd : (Nat → UInt64)), va_D A (cLaw h aw av kr kt km ao ad q x w v r t g fo fd)) (hv1 : vp_in (i + (1 : Int32)) L) (hp1 : xs (i + (1 : Int32)).toNatClampNeg = p1) (hv2 : vp_in (i + (2 : Int32)) L) (hp2 : xs (i + (2 : Int32)).toNatClampNeg = p2) (hv3 : vp_in (i + (3 : Int32)) L) (hp3 : xs (i + (3 : Int32)).toNatClampNeg = p3) (hv4 : vp_in (i + (4 : Int32)) L) (hp4 : xs (i + (4 : Int32)).toNatClampNeg = p4) (hv5 : vp_in (i + (5 : Int32)) L) (hp5 : xs (i + (5 : Int32)).toNatClampNeg = p5) (hcs : cs + 1 ≤ room_1.cells ∧ ss + 6 ≤ room_1.slots) (hok : ok_law_3 N w r g p1) (hT : f_law_3 N F x w v r t g fo fd p1 = 1)
    (hrec : ∀ (x : XS) (w : WS) (v : WS) (r : RS) (t : TS) (g : MS) (fo : (Nat → Int64)) (fd : (Nat → UInt64)) (H : Heap) (locs : List Loc) (ls : Array Slot), F x w v r t g fo fd = 1 → va_P D vwCl (cLaw h aw av kr kt km ao ad q x w v r t g fo fd) H → va_S A s.heap H locs → lv_has ls 9 [(0, .ref b), (1, .ref h), (2, .ref (km 0)), (3, .ref ao), (4, .ref ad), (5, .int i)] → W p l e room_1 s m args below meth c H locs (cs + 1) (ss + 6) Q (F0 m 1402 ls []))
    (hP : va_P D vwCl (cLaw h aw av kr kt km ao ad q x w v r t g fo fd) H) (hS : va_S A s.heap H locs) (hl : lv_has ls 9 [(0, .ref b), (1, .ref h), (2, .ref (km 0)), (3, .ref ao), (4, .ref ad), (5, .int i)]) : W p l e room_1 s m args below meth c H locs cs ss Q (F0 m 360 ls []) := by
  have hx := fx.1
  have hb := fx.2.1
  have ht : f_law_3 N F x w v r t g fo fd p1 = f_law_3 N F x w v r t g fo fd p1 := rfl
  simp only [ok_law_3] at hok
  refine lv_aload_n hx hb dL_law_360 rfl (lv_at hl 1 rfl) ?_
  refine lv_aload_n hx hb dL_law_361 rfl (lv_at hl 0 rfl) ?_
  refine lv_iload hx hb dL_law_362 (lv_at hl 5 rfl) ?_
  refine lv_iconst (v := 1) hx hb dL_law_364 (by decide) ?_
  refine lv_iadd hx hb dL_law_365 ?_
  refine sld hx hb hX hbl hbA hS hv1 hp1 dL_law_366 ?_
  refine lv_aload_n hx hb dL_law_367 rfl (lv_at hl 3 rfl) ?_
  obtain ⟨hk1, hok⟩ := hok
  refine kW1_i (wrun fx hSX (SZ.kept hSZ0 hS.2.1) (As := [.ref h, .int p1, .ref ao]) (rest := []) (c_L_pass l D q H.size h aw av kr kt ao x w v r t fo p1 N hk1 hstk) lk_L_104 ⟨Nat.le_of_ble_eq_true rfl, Nat.le_of_ble_eq_true rfl⟩ ⟨rfl, rfl⟩ hP (hD _ _ _ _ _ _ _ _) hS hA [0, 1, 2, 3, 4, 5, 6, 7, 8, 9, 10, 11, 12, 13, 25] rfl rfl rfl hl.1 rfl (Nat.le_of_ble_eq_true rfl) dL_law_368 hcs) hP (hD _ _ _ _ _ _ _ _) hS hA [0, 1, 2, 3, 4, 5, 6, 7, 8, 9, 10, 11, 12, 13, 25] rfl (fun _ => rfl) (fun r4 u2 H locs hw3 hP hS => ?_)
  have hP : va_P D vwCl (cLaw h aw av kr kt km ao ad q x u2.1 v r t g u2.2 fd) H := hP
  try simp only [hw3] at hok
  refine lv_istore (lv' := [(6, .int r4), (0, .ref b), (1, .ref h), (2, .ref (km 0)), (3, .ref ao), (4, .ref ad), (5, .int i)]) hx hb dL_law_371 hl (by decide) rfl (fun ls hl => ?_)
  refine lv_aload_n hx hb dL_law_373 rfl (lv_at hl 3 rfl) ?_
  refine lv_aload_n hx hb dL_law_374 rfl (lv_at hl 1 rfl) ?_
  refine lv_iload hx hb dL_law_375 (lv_at hl 6 rfl) ?_
  refine lv_iconst (v := 1) hx hb dL_law_377 (by decide) ?_
  refine lv_iadd hx hb dL_law_378 ?_
  refine sld hx hb hX hbl hbA hS hv1 hp1 dL_law_379 ?_
  obtain ⟨hk5, hok⟩ := hok
  refine kW_i (runV fx (As := [.int p1]) (rest := []) (c_X4_pass l D q H.size km g p1 N hk5) lk_L_106 ⟨Nat.le_of_ble_eq_true rfl, Nat.le_of_ble_eq_true rfl⟩ ⟨rfl, rfl⟩ hP (hD _ _ _ _ _ _ _ _) [14, 15, 16, 17, 18, 19, 20, 21, 22, 23, 24] rfl rfl (ci := 4) rfl rfl rfl hl.1 rfl (Nat.le_of_ble_eq_true rfl) dL_law_380 ⟨by have := hcs.1; omega, by have := hcs.2; omega⟩) hP (hD _ _ _ _ _ _ _ _) hS hA [14, 15, 16, 17, 18, 19, 20, 21, 22, 23, 24] rfl (fun _ => rfl) (fun r8 u6 H locs hw7 hP hS => ?_)
  have hP : va_P D vwCl (cLaw h aw av kr kt km ao ad q x u2.1 v r t u6 u2.2 fd) H := hP
  try simp only [hw7] at hok
  refine lv_istore (lv' := [(7, .int r8), (6, .int r4), (0, .ref b), (1, .ref h), (2, .ref (km 0)), (3, .ref ao), (4, .ref ad), (5, .int i)]) hx hb dL_law_383 hl (by decide) rfl (fun ls hl => ?_)
  refine lv_aload_n hx hb dL_law_385 rfl (lv_at hl 4 rfl) ?_
  refine kR_i (runV fx (As := []) (rest := []) (c_X4_thrown l D q H.size km u6) lk_L_94 ⟨Nat.le_of_ble_eq_true rfl, Nat.le_of_ble_eq_true rfl⟩ ⟨rfl, rfl⟩ hP (hD _ _ _ _ _ _ _ _) [14, 15, 16, 17, 18, 19, 20, 21, 22, 23, 24] rfl rfl (ci := 4) rfl rfl rfl hl.1 rfl (Nat.le_of_ble_eq_true rfl) dL_law_386 ⟨by have := hcs.1; omega, by have := hcs.2; omega⟩) hP hS (fun r9 _ H locs hr10 hP hS => ?_)
  subst hr10
  refine lv_iload hx hb dL_law_389 (lv_at hl 1 rfl) ?_
  refine lv_icmp_eq (tgt := 396) hx hb dL_law_391 (by decide) (fun c11 => ?_) (fun c11 => ?_)
  · refine lv_iload hx hb dL_law_396 (lv_at hl 1 rfl) ?_
    have K413 : ∀ (H : Heap) (locs : List Loc) (ls : Array Slot), f_law_3 N F x w v r t g fo fd p1 = f_L_law_b413 N x w v r t g fo fd F p1 → va_P D vwCl (cLaw h aw av kr kt km ao ad q x u2.1 v r t u6 u2.2 fd) H → va_S A s.heap H locs → lv_has ls 9 [(0, .ref b), (1, .ref h), (2, .ref (km 0)), (3, .ref ao), (4, .ref ad), (5, .int i)] → W p l e room_1 s m args below meth c H locs (cs + 1) (ss + 6) Q (F0 m 413 ls []) := by
      intro H locs ls ht hP hS hl
      refine lv_goto (tgt := 1402) hx hb dL_law_413 (by decide) ?_
      exact hrec x u2.1 v r t u6 u2.2 fd H locs ls ((show f_law_3 N F x w v r t g fo fd p1 = F x u2.1 v r t u6 u2.2 fd from ht.trans (by simp only [f_L_law_b413, hw3, hw7])).symm.trans hT) hP hS (lv_sub hl [0, 1, 2, 3, 4, 5] rfl)
    refine lv_if_ne (tgt := 413) hx hb dL_law_398 (by decide) (fun c14 => ?_) (fun c14 => ?_)
    · exact K413 H locs ls (ht.trans (by first | (simp only [f_law_3, if_pos c11, if_neg c14, hw3, hw7]; done) | (simp only [f_law_3, hw3, hw7]; simp only [if_pos c11, if_neg c14]))) hP hS (lv_sub hl [2, 3, 4, 5, 6, 7] rfl)
    · refine lv_aload_n hx hb dL_law_401 rfl (lv_at hl 5 rfl) ?_
      refine lv_iconst (v := 0) hx hb dL_law_402 (by decide) ?_
      refine va_lald hx hb fx.2.2.2.2.2.1 hP 25 2 (f := u2.2) rfl rfl (by unfold vp_in; decide) dL_law_403 ?_
      refine lv_iload hx hb dL_law_404 (lv_at hl 0 rfl) ?_
      refine lv_i2l (v := r8.toInt64) hx hb dL_law_406 rfl ?_
      refine W.lcmp hx hb dL_law_407 ?_
      refine lv_if_eq (tgt := 413) hx hb dL_law_408 (by decide) (fun c15 => ?_) (fun c15 => ?_)
      · exact K413 H locs ls (ht.trans (by first | (simp only [f_law_3, if_pos c11, if_pos c14, if_pos c15, hw3, hw7]; done) | (simp only [f_law_3, hw3, hw7]; simp only [if_pos c11, if_pos c14, if_pos c15]))) hP hS (lv_sub hl [2, 3, 4, 5, 6, 7] rfl)
      · refine lv_iconst (v := 0) hx hb dL_law_411 (by decide) ?_
        exact absurd ((show f_law_3 N F x w v r t g fo fd p1 = (0 : Int32) from ht.trans (by first | (simp only [f_law_3, if_pos c11, if_pos c14, if_neg c15, hw3, hw7]; done) | (simp only [f_law_3, hw3, hw7]; simp only [if_pos c11, if_pos c14, if_neg c15]))).symm.trans hT) (by decide)
  · refine lv_iconst (v := 0) hx hb dL_law_394 (by decide) ?_
    exact absurd ((show f_law_3 N F x w v r t g fo fd p1 = (0 : Int32) from ht.trans (by first | (simp only [f_law_3, if_neg c11, hw3, hw7]; done) | (simp only [f_law_3, hw3, hw7]; simp only [if_neg c11]))).symm.trans hT) (by decide)

def f_law_4 (F : XS → WS → WS → RS → TS → MS → (Nat → Int64) → (Nat → UInt64) → Int32) (x : XS) (w : WS) (v : WS) (r : RS) (t : TS) (g : MS) (fo : (Nat → Int64)) (fd : (Nat → UInt64)) : Int32 :=
  if (f_X4_thrown (f_X4_close g)) = (f_L_close w).1 then (F x ((f_L_close w).2) v r t (f_X4_close g) fo fd) else (0 : Int32)

set_option maxRecDepth 100000 in
set_option maxHeartbeats 8000000 in
theorem c_law_4 {p : Program} {l : Launch} {e : Env} {s : State} {m : MethodId} {args : Array Value} {below : List Frame} {meth : Method} {c : Code} {H : Heap} {locs : List Loc} {cs ss : Nat} {Q : State → Prop} {D : va_G} {q : Nat → ClassId} {A : Nat → Prop} {b L : Nat} {xs : Nat → Int32} {ls : Array Slot} (h aw av ao ad : Nat) (kr kt km : Nat → Nat) (x : XS) (w : WS) (v : WS) (r : RS) (t : TS) (g : MS) (fo : (Nat → Int64)) (fd : (Nat → UInt64)) (p1 p2 p3 p4 p5 i : Int32) (N : Nat) (F : XS → WS → WS → RS → TS → MS → (Nat → Int64) → (Nat → UInt64) → Int32) (hstk : l.stackTraces = false) (fx : FX p s m args c RL code 9 D q) (hSX : SX s) (hSZ0 : SZ A s s.heap) (hX : va_X b L xs s s.heap) (hbl : b < s.heap.size) (hbA : ¬ A b) (hA : ∀ a, s.heap.size ≤ a → A a) (hD : ∀ (x : XS) (w : WS) (v : WS) (r : RS) (t : TS) (g : MS) (fo : (Nat → Int64)) (fd : (Nat → UInt64)), va_D A (cLaw h aw av kr kt km ao ad q x w v r t g fo fd)) (hv1 : vp_in (i + (1 : Int32)) L) (hp1 : xs (i + (1 : Int32)).toNatClampNeg = p1) (hv2 : vp_in (i + (2 : Int32)) L) (hp2 : xs (i + (2 : Int32)).toNatClampNeg = p2) (hv3 : vp_in (i + (3 : Int32)) L) (hp3 : xs (i + (3 : Int32)).toNatClampNeg = p3) (hv4 : vp_in (i + (4 : Int32)) L) (hp4 : xs (i + (4 : Int32)).toNatClampNeg = p4) (hv5 : vp_in (i + (5 : Int32)) L) (hp5 : xs (i + (5 : Int32)).toNatClampNeg = p5) (hcs : cs + 1 ≤ room_1.cells ∧ ss + 6 ≤ room_1.slots) (hT : f_law_4 F x w v r t g fo fd = 1)
    (hrec : ∀ (x : XS) (w : WS) (v : WS) (r : RS) (t : TS) (g : MS) (fo : (Nat → Int64)) (fd : (Nat → UInt64)) (H : Heap) (locs : List Loc) (ls : Array Slot), F x w v r t g fo fd = 1 → va_P D vwCl (cLaw h aw av kr kt km ao ad q x w v r t g fo fd) H → va_S A s.heap H locs → lv_has ls 9 [(0, .ref b), (1, .ref h), (2, .ref (km 0)), (3, .ref ao), (4, .ref ad), (5, .int i)] → W p l e room_1 s m args below meth c H locs (cs + 1) (ss + 6) Q (F0 m 1402 ls []))
    (hP : va_P D vwCl (cLaw h aw av kr kt km ao ad q x w v r t g fo fd) H) (hS : va_S A s.heap H locs) (hl : lv_has ls 9 [(0, .ref b), (1, .ref h), (2, .ref (km 0)), (3, .ref ao), (4, .ref ad), (5, .int i)]) : W p l e room_1 s m args below meth c H locs cs ss Q (F0 m 416 ls []) := by
  have hx := fx.1
  have hb := fx.2.1
  have ht : f_law_4 F x w v r t g fo fd = f_law_4 F x w v r t g fo fd := rfl
  refine lv_aload_n hx hb dL_law_416 rfl (lv_at hl 1 rfl) ?_
  refine kW1_i (wrun fx hSX (SZ.kept hSZ0 hS.2.1) (As := [.ref h]) (rest := []) (c_L_close l D q H.size h aw av kr kt x w v r t hstk) lk_L_107 ⟨Nat.le_of_ble_eq_true rfl, Nat.le_of_ble_eq_true rfl⟩ ⟨rfl, rfl⟩ hP (hD _ _ _ _ _ _ _ _) hS hA [0, 1, 2, 3, 4, 5, 6, 7, 8, 9, 10, 11, 12, 13] rfl rfl rfl hl.1 rfl (Nat.le_of_ble_eq_true rfl) dL_law_417 hcs) hP (hD _ _ _ _ _ _ _ _) hS hA [0, 1, 2, 3, 4, 5, 6, 7, 8, 9, 10, 11, 12, 13] rfl (fun _ => rfl) (fun r3 u1 H locs hw2 hP hS => ?_)
  have hP : va_P D vwCl (cLaw h aw av kr kt km ao ad q x u1 v r t g fo fd) H := hP
  refine lv_istore (lv' := [(6, .int r3), (0, .ref b), (1, .ref h), (2, .ref (km 0)), (3, .ref ao), (4, .ref ad), (5, .int i)]) hx hb dL_law_420 hl (by decide) rfl (fun ls hl => ?_)
  refine lv_aload_n hx hb dL_law_422 rfl (lv_at hl 3 rfl) ?_
  refine kW_v (runV fx (As := []) (rest := []) (c_X4_close l D q H.size km g) lk_L_110 ⟨Nat.le_of_ble_eq_true rfl, Nat.le_of_ble_eq_true rfl⟩ ⟨rfl, rfl⟩ hP (hD _ _ _ _ _ _ _ _) [14, 15, 16, 17, 18, 19, 20, 21, 22, 23, 24] rfl rfl (ci := 4) rfl rfl rfl hl.1 rfl (Nat.le_of_ble_eq_true rfl) dL_law_423 ⟨by have := hcs.1; omega, by have := hcs.2; omega⟩) hP (hD _ _ _ _ _ _ _ _) hS hA [14, 15, 16, 17, 18, 19, 20, 21, 22, 23, 24] rfl (fun _ => rfl) (fun u4 H locs hw5 hP hS => ?_)
  have hP : va_P D vwCl (cLaw h aw av kr kt km ao ad q x u1 v r t u4 fo fd) H := hP
  refine lv_aload_n hx hb dL_law_426 rfl (lv_at hl 3 rfl) ?_
  refine kR_i (runV fx (As := []) (rest := []) (c_X4_thrown l D q H.size km u4) lk_L_94 ⟨Nat.le_of_ble_eq_true rfl, Nat.le_of_ble_eq_true rfl⟩ ⟨rfl, rfl⟩ hP (hD _ _ _ _ _ _ _ _) [14, 15, 16, 17, 18, 19, 20, 21, 22, 23, 24] rfl rfl (ci := 4) rfl rfl rfl hl.1 rfl (Nat.le_of_ble_eq_true rfl) dL_law_427 ⟨by have := hcs.1; omega, by have := hcs.2; omega⟩) hP hS (fun r6 _ H locs hr7 hP hS => ?_)
  subst hr7
  refine lv_iload hx hb dL_law_430 (lv_at hl 0 rfl) ?_
  refine lv_icmp_eq (tgt := 437) hx hb dL_law_432 (by decide) (fun c8 => ?_) (fun c8 => ?_)
  · refine lv_goto (tgt := 1402) hx hb dL_law_437 (by decide) ?_
    exact hrec x u1 v r t u4 fo fd H locs ls ((show f_law_4 F x w v r t g fo fd = F x u1 v r t u4 fo fd from ht.trans (by first | (simp only [f_law_4, if_pos c8, hw2, hw5]; done) | (simp only [f_law_4, hw2, hw5]; simp only [if_pos c8]))).symm.trans hT) hP hS (lv_sub hl [1, 2, 3, 4, 5, 6] rfl)
  · refine lv_iconst (v := 0) hx hb dL_law_435 (by decide) ?_
    exact absurd ((show f_law_4 F x w v r t g fo fd = (0 : Int32) from ht.trans (by first | (simp only [f_law_4, if_neg c8, hw2, hw5]; done) | (simp only [f_law_4, hw2, hw5]; simp only [if_neg c8]))).symm.trans hT) (by decide)

def f_L_law_b481 (x : XS) (w : WS) (v : WS) (r : RS) (t : TS) (g : MS) (fo : (Nat → Int64)) (fd : (Nat → UInt64)) (F : XS → WS → WS → RS → TS → MS → (Nat → Int64) → (Nat → UInt64) → Int32) : Int32 :=
  F x ((f_L_open w fo).2).1 v r t ((f_X4_open g).2) ((f_L_open w fo).2).2 fd

def f_law_5 (F : XS → WS → WS → RS → TS → MS → (Nat → Int64) → (Nat → UInt64) → Int32) (x : XS) (w : WS) (v : WS) (r : RS) (t : TS) (g : MS) (fo : (Nat → Int64)) (fd : (Nat → UInt64)) : Int32 :=
  if (f_X4_thrown ((f_X4_open g).2)) = (f_L_open w fo).1 then (if (f_L_open w fo).1 = 0 then (if (lg_cmp (((f_L_open w fo).2).2 (0 : Int32).toNatClampNeg) (f_X4_open g).1.toInt64) = 0 then (f_L_law_b481 x w v r t g fo fd F) else (0 : Int32)) else (f_L_law_b481 x w v r t g fo fd F)) else (0 : Int32)

set_option maxRecDepth 100000 in
set_option maxHeartbeats 8000000 in
theorem c_law_5 {p : Program} {l : Launch} {e : Env} {s : State} {m : MethodId} {args : Array Value} {below : List Frame} {meth : Method} {c : Code} {H : Heap} {locs : List Loc} {cs ss : Nat} {Q : State → Prop} {D : va_G} {q : Nat → ClassId} {A : Nat → Prop} {b L : Nat} {xs : Nat → Int32} {ls : Array Slot} (h aw av ao ad : Nat) (kr kt km : Nat → Nat) (x : XS) (w : WS) (v : WS) (r : RS) (t : TS) (g : MS) (fo : (Nat → Int64)) (fd : (Nat → UInt64)) (p1 p2 p3 p4 p5 i : Int32) (N : Nat) (F : XS → WS → WS → RS → TS → MS → (Nat → Int64) → (Nat → UInt64) → Int32) (hstk : l.stackTraces = false) (fx : FX p s m args c RL code 9 D q) (hSX : SX s) (hSZ0 : SZ A s s.heap) (hX : va_X b L xs s s.heap) (hbl : b < s.heap.size) (hbA : ¬ A b) (hA : ∀ a, s.heap.size ≤ a → A a) (hD : ∀ (x : XS) (w : WS) (v : WS) (r : RS) (t : TS) (g : MS) (fo : (Nat → Int64)) (fd : (Nat → UInt64)), va_D A (cLaw h aw av kr kt km ao ad q x w v r t g fo fd)) (hv1 : vp_in (i + (1 : Int32)) L) (hp1 : xs (i + (1 : Int32)).toNatClampNeg = p1) (hv2 : vp_in (i + (2 : Int32)) L) (hp2 : xs (i + (2 : Int32)).toNatClampNeg = p2) (hv3 : vp_in (i + (3 : Int32)) L) (hp3 : xs (i + (3 : Int32)).toNatClampNeg = p3) (hv4 : vp_in (i + (4 : Int32)) L) (hp4 : xs (i + (4 : Int32)).toNatClampNeg = p4) (hv5 : vp_in (i + (5 : Int32)) L) (hp5 : xs (i + (5 : Int32)).toNatClampNeg = p5) (hcs : cs + 1 ≤ room_1.cells ∧ ss + 6 ≤ room_1.slots) (hT : f_law_5 F x w v r t g fo fd = 1)
    (hrec : ∀ (x : XS) (w : WS) (v : WS) (r : RS) (t : TS) (g : MS) (fo : (Nat → Int64)) (fd : (Nat → UInt64)) (H : Heap) (locs : List Loc) (ls : Array Slot), F x w v r t g fo fd = 1 → va_P D vwCl (cLaw h aw av kr kt km ao ad q x w v r t g fo fd) H → va_S A s.heap H locs → lv_has ls 9 [(0, .ref b), (1, .ref h), (2, .ref (km 0)), (3, .ref ao), (4, .ref ad), (5, .int i)] → W p l e room_1 s m args below meth c H locs (cs + 1) (ss + 6) Q (F0 m 1402 ls []))
    (hP : va_P D vwCl (cLaw h aw av kr kt km ao ad q x w v r t g fo fd) H) (hS : va_S A s.heap H locs) (hl : lv_has ls 9 [(0, .ref b), (1, .ref h), (2, .ref (km 0)), (3, .ref ao), (4, .ref ad), (5, .int i)]) : W p l e room_1 s m args below meth c H locs cs ss Q (F0 m 440 ls []) := by
  have hx := fx.1
  have hb := fx.2.1
  have ht : f_law_5 F x w v r t g fo fd = f_law_5 F x w v r t g fo fd := rfl
  refine lv_aload_n hx hb dL_law_440 rfl (lv_at hl 1 rfl) ?_
  refine lv_aload_n hx hb dL_law_441 rfl (lv_at hl 3 rfl) ?_
  refine kW1_i (wrun fx hSX (SZ.kept hSZ0 hS.2.1) (As := [.ref h, .ref ao]) (rest := []) (c_L_open l D q H.size h aw av kr kt ao x w v r t fo hstk) lk_L_111 ⟨Nat.le_of_ble_eq_true rfl, Nat.le_of_ble_eq_true rfl⟩ ⟨rfl, rfl⟩ hP (hD _ _ _ _ _ _ _ _) hS hA [0, 1, 2, 3, 4, 5, 6, 7, 8, 9, 10, 11, 12, 13, 25] rfl rfl rfl hl.1 rfl (Nat.le_of_ble_eq_true rfl) dL_law_442 hcs) hP (hD _ _ _ _ _ _ _ _) hS hA [0, 1, 2, 3, 4, 5, 6, 7, 8, 9, 10, 11, 12, 13, 25] rfl (fun _ => rfl) (fun r3 u1 H locs hw2 hP hS => ?_)
  have hP : va_P D vwCl (cLaw h aw av kr kt km ao ad q x u1.1 v r t g u1.2 fd) H := hP
  refine lv_istore (lv' := [(6, .int r3), (0, .ref b), (1, .ref h), (2, .ref (km 0)), (3, .ref ao), (4, .ref ad), (5, .int i)]) hx hb dL_law_445 hl (by decide) rfl (fun ls hl => ?_)
  refine lv_aload_n hx hb dL_law_447 rfl (lv_at hl 3 rfl) ?_
  refine kW_i (runV fx (As := []) (rest := []) (c_X4_open l D q H.size km g) lk_L_114 ⟨Nat.le_of_ble_eq_true rfl, Nat.le_of_ble_eq_true rfl⟩ ⟨rfl, rfl⟩ hP (hD _ _ _ _ _ _ _ _) [14, 15, 16, 17, 18, 19, 20, 21, 22, 23, 24] rfl rfl (ci := 4) rfl rfl rfl hl.1 rfl (Nat.le_of_ble_eq_true rfl) dL_law_448 ⟨by have := hcs.1; omega, by have := hcs.2; omega⟩) hP (hD _ _ _ _ _ _ _ _) hS hA [14, 15, 16, 17, 18, 19, 20, 21, 22, 23, 24] rfl (fun _ => rfl) (fun r6 u4 H locs hw5 hP hS => ?_)
  have hP : va_P D vwCl (cLaw h aw av kr kt km ao ad q x u1.1 v r t u4 u1.2 fd) H := hP
  refine lv_istore (lv' := [(7, .int r6), (6, .int r3), (0, .ref b), (1, .ref h), (2, .ref (km 0)), (3, .ref ao), (4, .ref ad), (5, .int i)]) hx hb dL_law_451 hl (by decide) rfl (fun ls hl => ?_)
  refine lv_aload_n hx hb dL_law_453 rfl (lv_at hl 4 rfl) ?_
  refine kR_i (runV fx (As := []) (rest := []) (c_X4_thrown l D q H.size km u4) lk_L_94 ⟨Nat.le_of_ble_eq_true rfl, Nat.le_of_ble_eq_true rfl⟩ ⟨rfl, rfl⟩ hP (hD _ _ _ _ _ _ _ _) [14, 15, 16, 17, 18, 19, 20, 21, 22, 23, 24] rfl rfl (ci := 4) rfl rfl rfl hl.1 rfl (Nat.le_of_ble_eq_true rfl) dL_law_454 ⟨by have := hcs.1; omega, by have := hcs.2; omega⟩) hP hS (fun r7 _ H locs hr8 hP hS => ?_)
  subst hr8
  refine lv_iload hx hb dL_law_457 (lv_at hl 1 rfl) ?_
  refine lv_icmp_eq (tgt := 464) hx hb dL_law_459 (by decide) (fun c9 => ?_) (fun c9 => ?_)
  · refine lv_iload hx hb dL_law_464 (lv_at hl 1 rfl) ?_
    have K481 : ∀ (H : Heap) (locs : List Loc) (ls : Array Slot), f_law_5 F x w v r t g fo fd = f_L_law_b481 x w v r t g fo fd F → va_P D vwCl (cLaw h aw av kr kt km ao ad q x u1.1 v r t u4 u1.2 fd) H → va_S A s.heap H locs → lv_has ls 9 [(0, .ref b), (1, .ref h), (2, .ref (km 0)), (3, .ref ao), (4, .ref ad), (5, .int i)] → W p l e room_1 s m args below meth c H locs (cs + 1) (ss + 6) Q (F0 m 481 ls []) := by
      intro H locs ls ht hP hS hl
      refine lv_goto (tgt := 1402) hx hb dL_law_481 (by decide) ?_
      exact hrec x u1.1 v r t u4 u1.2 fd H locs ls ((show f_law_5 F x w v r t g fo fd = F x u1.1 v r t u4 u1.2 fd from ht.trans (by simp only [f_L_law_b481, hw2, hw5])).symm.trans hT) hP hS (lv_sub hl [0, 1, 2, 3, 4, 5] rfl)
    refine lv_if_ne (tgt := 481) hx hb dL_law_466 (by decide) (fun c12 => ?_) (fun c12 => ?_)
    · exact K481 H locs ls (ht.trans (by first | (simp only [f_law_5, if_pos c9, if_neg c12, hw2, hw5]; done) | (simp only [f_law_5, hw2, hw5]; simp only [if_pos c9, if_neg c12]))) hP hS (lv_sub hl [2, 3, 4, 5, 6, 7] rfl)
    · refine lv_aload_n hx hb dL_law_469 rfl (lv_at hl 5 rfl) ?_
      refine lv_iconst (v := 0) hx hb dL_law_470 (by decide) ?_
      refine va_lald hx hb fx.2.2.2.2.2.1 hP 25 2 (f := u1.2) rfl rfl (by unfold vp_in; decide) dL_law_471 ?_
      refine lv_iload hx hb dL_law_472 (lv_at hl 0 rfl) ?_
      refine lv_i2l (v := r6.toInt64) hx hb dL_law_474 rfl ?_
      refine W.lcmp hx hb dL_law_475 ?_
      refine lv_if_eq (tgt := 481) hx hb dL_law_476 (by decide) (fun c13 => ?_) (fun c13 => ?_)
      · exact K481 H locs ls (ht.trans (by first | (simp only [f_law_5, if_pos c9, if_pos c12, if_pos c13, hw2, hw5]; done) | (simp only [f_law_5, hw2, hw5]; simp only [if_pos c9, if_pos c12, if_pos c13]))) hP hS (lv_sub hl [2, 3, 4, 5, 6, 7] rfl)
      · refine lv_iconst (v := 0) hx hb dL_law_479 (by decide) ?_
        exact absurd ((show f_law_5 F x w v r t g fo fd = (0 : Int32) from ht.trans (by first | (simp only [f_law_5, if_pos c9, if_pos c12, if_neg c13, hw2, hw5]; done) | (simp only [f_law_5, hw2, hw5]; simp only [if_pos c9, if_pos c12, if_neg c13]))).symm.trans hT) (by decide)
  · refine lv_iconst (v := 0) hx hb dL_law_462 (by decide) ?_
    exact absurd ((show f_law_5 F x w v r t g fo fd = (0 : Int32) from ht.trans (by first | (simp only [f_law_5, if_neg c9, hw2, hw5]; done) | (simp only [f_law_5, hw2, hw5]; simp only [if_neg c9]))).symm.trans hT) (by decide)

def f_L_law_b549 (N : Nat) (x : XS) (w : WS) (v : WS) (r : RS) (t : TS) (g : MS) (fo : (Nat → Int64)) (fd : (Nat → UInt64)) (F : XS → WS → WS → RS → TS → MS → (Nat → Int64) → (Nat → UInt64) → Int32) (p1 : Int32) (p2 : Int32) : Int32 :=
  F ((f_L_pump N x w r fo p1 p2).2).1 ((f_L_pump N x w r fo p1 p2).2).2.1 v r t ((f_X4_pump N g p1 p2).2) ((f_L_pump N x w r fo p1 p2).2).2.2 fd

def f_law_6 (N : Nat) (F : XS → WS → WS → RS → TS → MS → (Nat → Int64) → (Nat → UInt64) → Int32) (x : XS) (w : WS) (v : WS) (r : RS) (t : TS) (g : MS) (fo : (Nat → Int64)) (fd : (Nat → UInt64)) (p1 : Int32) (p2 : Int32) : Int32 :=
  if (f_X4_thrown ((f_X4_pump N g p1 p2).2)) = (f_L_pump N x w r fo p1 p2).1 then (if (f_L_pump N x w r fo p1 p2).1 = 0 then (if (lg_cmp (((f_L_pump N x w r fo p1 p2).2).2.2 (0 : Int32).toNatClampNeg) (f_X4_pump N g p1 p2).1.toInt64) = 0 then (f_L_law_b549 N x w v r t g fo fd F p1 p2) else (0 : Int32)) else (f_L_law_b549 N x w v r t g fo fd F p1 p2)) else (0 : Int32)

def ok_law_6 (N : Nat) (x : XS) (w : WS) (r : RS) (g : MS) (p1 : Int32) (p2 : Int32) : Prop :=
  (ok_L_pump N x w r p1 p2) ∧ ((ok_X4_pump N g p1 p2) ∧ True)

set_option maxRecDepth 100000 in
set_option maxHeartbeats 8000000 in
theorem c_law_6 {p : Program} {l : Launch} {e : Env} {s : State} {m : MethodId} {args : Array Value} {below : List Frame} {meth : Method} {c : Code} {H : Heap} {locs : List Loc} {cs ss : Nat} {Q : State → Prop} {D : va_G} {q : Nat → ClassId} {A : Nat → Prop} {b L : Nat} {xs : Nat → Int32} {ls : Array Slot} (h aw av ao ad : Nat) (kr kt km : Nat → Nat) (x : XS) (w : WS) (v : WS) (r : RS) (t : TS) (g : MS) (fo : (Nat → Int64)) (fd : (Nat → UInt64)) (p1 p2 p3 p4 p5 i : Int32) (N : Nat) (F : XS → WS → WS → RS → TS → MS → (Nat → Int64) → (Nat → UInt64) → Int32) (hstk : l.stackTraces = false) (fx : FX p s m args c RL code 9 D q) (hSX : SX s) (hSZ0 : SZ A s s.heap) (hX : va_X b L xs s s.heap) (hbl : b < s.heap.size) (hbA : ¬ A b) (hA : ∀ a, s.heap.size ≤ a → A a) (hD : ∀ (x : XS) (w : WS) (v : WS) (r : RS) (t : TS) (g : MS) (fo : (Nat → Int64)) (fd : (Nat → UInt64)), va_D A (cLaw h aw av kr kt km ao ad q x w v r t g fo fd)) (hv1 : vp_in (i + (1 : Int32)) L) (hp1 : xs (i + (1 : Int32)).toNatClampNeg = p1) (hv2 : vp_in (i + (2 : Int32)) L) (hp2 : xs (i + (2 : Int32)).toNatClampNeg = p2) (hv3 : vp_in (i + (3 : Int32)) L) (hp3 : xs (i + (3 : Int32)).toNatClampNeg = p3) (hv4 : vp_in (i + (4 : Int32)) L) (hp4 : xs (i + (4 : Int32)).toNatClampNeg = p4) (hv5 : vp_in (i + (5 : Int32)) L) (hp5 : xs (i + (5 : Int32)).toNatClampNeg = p5) (hcs : cs + 1 ≤ room_1.cells ∧ ss + 6 ≤ room_1.slots) (hok : ok_law_6 N x w r g p1 p2) (hT : f_law_6 N F x w v r t g fo fd p1 p2 = 1)
    (hrec : ∀ (x : XS) (w : WS) (v : WS) (r : RS) (t : TS) (g : MS) (fo : (Nat → Int64)) (fd : (Nat → UInt64)) (H : Heap) (locs : List Loc) (ls : Array Slot), F x w v r t g fo fd = 1 → va_P D vwCl (cLaw h aw av kr kt km ao ad q x w v r t g fo fd) H → va_S A s.heap H locs → lv_has ls 9 [(0, .ref b), (1, .ref h), (2, .ref (km 0)), (3, .ref ao), (4, .ref ad), (5, .int i)] → W p l e room_1 s m args below meth c H locs (cs + 1) (ss + 6) Q (F0 m 1402 ls []))
    (hP : va_P D vwCl (cLaw h aw av kr kt km ao ad q x w v r t g fo fd) H) (hS : va_S A s.heap H locs) (hl : lv_has ls 9 [(0, .ref b), (1, .ref h), (2, .ref (km 0)), (3, .ref ao), (4, .ref ad), (5, .int i)]) : W p l e room_1 s m args below meth c H locs cs ss Q (F0 m 484 ls []) := by
  have hx := fx.1
  have hb := fx.2.1
  have ht : f_law_6 N F x w v r t g fo fd p1 p2 = f_law_6 N F x w v r t g fo fd p1 p2 := rfl
  simp only [ok_law_6] at hok
  refine lv_aload_n hx hb dL_law_484 rfl (lv_at hl 1 rfl) ?_
  refine lv_aload_n hx hb dL_law_485 rfl (lv_at hl 0 rfl) ?_
  refine lv_iload hx hb dL_law_486 (lv_at hl 5 rfl) ?_
  refine lv_iconst (v := 1) hx hb dL_law_488 (by decide) ?_
  refine lv_iadd hx hb dL_law_489 ?_
  refine sld hx hb hX hbl hbA hS hv1 hp1 dL_law_490 ?_
  refine lv_aload_n hx hb dL_law_491 rfl (lv_at hl 0 rfl) ?_
  refine lv_iload hx hb dL_law_492 (lv_at hl 5 rfl) ?_
  refine lv_iconst (v := 2) hx hb dL_law_494 (by decide) ?_
  refine lv_iadd hx hb dL_law_495 ?_
  refine sld hx hb hX hbl hbA hS hv2 hp2 dL_law_496 ?_
  refine lv_aload_n hx hb dL_law_497 rfl (lv_at hl 3 rfl) ?_
  obtain ⟨hk1, hok⟩ := hok
  refine kW1_i (wrun fx hSX (SZ.kept hSZ0 hS.2.1) (As := [.ref h, .int p1, .int p2, .ref ao]) (rest := []) (c_L_pump l D q H.size h aw av kr kt ao x w v r t fo p1 p2 N hk1 hstk) lk_L_115 ⟨Nat.le_of_ble_eq_true rfl, Nat.le_of_ble_eq_true rfl⟩ ⟨rfl, rfl⟩ hP (hD _ _ _ _ _ _ _ _) hS hA [0, 1, 2, 3, 4, 5, 6, 7, 8, 9, 10, 11, 12, 13, 25] rfl rfl rfl hl.1 rfl (Nat.le_of_ble_eq_true rfl) dL_law_498 hcs) hP (hD _ _ _ _ _ _ _ _) hS hA [0, 1, 2, 3, 4, 5, 6, 7, 8, 9, 10, 11, 12, 13, 25] rfl (fun _ => rfl) (fun r4 u2 H locs hw3 hP hS => ?_)
  have hP : va_P D vwCl (cLaw h aw av kr kt km ao ad q u2.1 u2.2.1 v r t g u2.2.2 fd) H := hP
  try simp only [hw3] at hok
  refine lv_istore (lv' := [(6, .int r4), (0, .ref b), (1, .ref h), (2, .ref (km 0)), (3, .ref ao), (4, .ref ad), (5, .int i)]) hx hb dL_law_501 hl (by decide) rfl (fun ls hl => ?_)
  refine lv_aload_n hx hb dL_law_503 rfl (lv_at hl 3 rfl) ?_
  refine lv_aload_n hx hb dL_law_504 rfl (lv_at hl 1 rfl) ?_
  refine lv_iload hx hb dL_law_505 (lv_at hl 6 rfl) ?_
  refine lv_iconst (v := 1) hx hb dL_law_507 (by decide) ?_
  refine lv_iadd hx hb dL_law_508 ?_
  refine sld hx hb hX hbl hbA hS hv1 hp1 dL_law_509 ?_
  refine lv_aload_n hx hb dL_law_510 rfl (lv_at hl 1 rfl) ?_
  refine lv_iload hx hb dL_law_511 (lv_at hl 6 rfl) ?_
  refine lv_iconst (v := 2) hx hb dL_law_513 (by decide) ?_
  refine lv_iadd hx hb dL_law_514 ?_
  refine sld hx hb hX hbl hbA hS hv2 hp2 dL_law_515 ?_
  obtain ⟨hk5, hok⟩ := hok
  refine kW_i (runV fx (As := [.int p1, .int p2]) (rest := []) (c_X4_pump l D q H.size km g p1 p2 N hk5) lk_L_118 ⟨Nat.le_of_ble_eq_true rfl, Nat.le_of_ble_eq_true rfl⟩ ⟨rfl, rfl⟩ hP (hD _ _ _ _ _ _ _ _) [14, 15, 16, 17, 18, 19, 20, 21, 22, 23, 24] rfl rfl (ci := 4) rfl rfl rfl hl.1 rfl (Nat.le_of_ble_eq_true rfl) dL_law_516 ⟨by have := hcs.1; omega, by have := hcs.2; omega⟩) hP (hD _ _ _ _ _ _ _ _) hS hA [14, 15, 16, 17, 18, 19, 20, 21, 22, 23, 24] rfl (fun _ => rfl) (fun r8 u6 H locs hw7 hP hS => ?_)
  have hP : va_P D vwCl (cLaw h aw av kr kt km ao ad q u2.1 u2.2.1 v r t u6 u2.2.2 fd) H := hP
  try simp only [hw7] at hok
  refine lv_istore (lv' := [(7, .int r8), (6, .int r4), (0, .ref b), (1, .ref h), (2, .ref (km 0)), (3, .ref ao), (4, .ref ad), (5, .int i)]) hx hb dL_law_519 hl (by decide) rfl (fun ls hl => ?_)
  refine lv_aload_n hx hb dL_law_521 rfl (lv_at hl 4 rfl) ?_
  refine kR_i (runV fx (As := []) (rest := []) (c_X4_thrown l D q H.size km u6) lk_L_94 ⟨Nat.le_of_ble_eq_true rfl, Nat.le_of_ble_eq_true rfl⟩ ⟨rfl, rfl⟩ hP (hD _ _ _ _ _ _ _ _) [14, 15, 16, 17, 18, 19, 20, 21, 22, 23, 24] rfl rfl (ci := 4) rfl rfl rfl hl.1 rfl (Nat.le_of_ble_eq_true rfl) dL_law_522 ⟨by have := hcs.1; omega, by have := hcs.2; omega⟩) hP hS (fun r9 _ H locs hr10 hP hS => ?_)
  subst hr10
  refine lv_iload hx hb dL_law_525 (lv_at hl 1 rfl) ?_
  refine lv_icmp_eq (tgt := 532) hx hb dL_law_527 (by decide) (fun c11 => ?_) (fun c11 => ?_)
  · refine lv_iload hx hb dL_law_532 (lv_at hl 1 rfl) ?_
    have K549 : ∀ (H : Heap) (locs : List Loc) (ls : Array Slot), f_law_6 N F x w v r t g fo fd p1 p2 = f_L_law_b549 N x w v r t g fo fd F p1 p2 → va_P D vwCl (cLaw h aw av kr kt km ao ad q u2.1 u2.2.1 v r t u6 u2.2.2 fd) H → va_S A s.heap H locs → lv_has ls 9 [(0, .ref b), (1, .ref h), (2, .ref (km 0)), (3, .ref ao), (4, .ref ad), (5, .int i)] → W p l e room_1 s m args below meth c H locs (cs + 1) (ss + 6) Q (F0 m 549 ls []) := by
      intro H locs ls ht hP hS hl
      refine lv_goto (tgt := 1402) hx hb dL_law_549 (by decide) ?_
      exact hrec u2.1 u2.2.1 v r t u6 u2.2.2 fd H locs ls ((show f_law_6 N F x w v r t g fo fd p1 p2 = F u2.1 u2.2.1 v r t u6 u2.2.2 fd from ht.trans (by simp only [f_L_law_b549, hw3, hw7])).symm.trans hT) hP hS (lv_sub hl [0, 1, 2, 3, 4, 5] rfl)
    refine lv_if_ne (tgt := 549) hx hb dL_law_534 (by decide) (fun c14 => ?_) (fun c14 => ?_)
    · exact K549 H locs ls (ht.trans (by first | (simp only [f_law_6, if_pos c11, if_neg c14, hw3, hw7]; done) | (simp only [f_law_6, hw3, hw7]; simp only [if_pos c11, if_neg c14]))) hP hS (lv_sub hl [2, 3, 4, 5, 6, 7] rfl)
    · refine lv_aload_n hx hb dL_law_537 rfl (lv_at hl 5 rfl) ?_
      refine lv_iconst (v := 0) hx hb dL_law_538 (by decide) ?_
      refine va_lald hx hb fx.2.2.2.2.2.1 hP 25 2 (f := u2.2.2) rfl rfl (by unfold vp_in; decide) dL_law_539 ?_
      refine lv_iload hx hb dL_law_540 (lv_at hl 0 rfl) ?_
      refine lv_i2l (v := r8.toInt64) hx hb dL_law_542 rfl ?_
      refine W.lcmp hx hb dL_law_543 ?_
      refine lv_if_eq (tgt := 549) hx hb dL_law_544 (by decide) (fun c15 => ?_) (fun c15 => ?_)
      · exact K549 H locs ls (ht.trans (by first | (simp only [f_law_6, if_pos c11, if_pos c14, if_pos c15, hw3, hw7]; done) | (simp only [f_law_6, hw3, hw7]; simp only [if_pos c11, if_pos c14, if_pos c15]))) hP hS (lv_sub hl [2, 3, 4, 5, 6, 7] rfl)
      · refine lv_iconst (v := 0) hx hb dL_law_547 (by decide) ?_
        exact absurd ((show f_law_6 N F x w v r t g fo fd p1 p2 = (0 : Int32) from ht.trans (by first | (simp only [f_law_6, if_pos c11, if_pos c14, if_neg c15, hw3, hw7]; done) | (simp only [f_law_6, hw3, hw7]; simp only [if_pos c11, if_pos c14, if_neg c15]))).symm.trans hT) (by decide)
  · refine lv_iconst (v := 0) hx hb dL_law_530 (by decide) ?_
    exact absurd ((show f_law_6 N F x w v r t g fo fd p1 p2 = (0 : Int32) from ht.trans (by first | (simp only [f_law_6, if_neg c11, hw3, hw7]; done) | (simp only [f_law_6, hw3, hw7]; simp only [if_neg c11]))).symm.trans hT) (by decide)

def f_L_law_b605 (x : XS) (w : WS) (v : WS) (r : RS) (t : TS) (g : MS) (fo : (Nat → Int64)) (fd : (Nat → UInt64)) (F : XS → WS → WS → RS → TS → MS → (Nat → Int64) → (Nat → UInt64) → Int32) (p1 : Int32) : Int32 :=
  F ((f_L_casing x w t fo p1).2).1 ((f_L_casing x w t fo p1).2).2.1 v r ((f_L_casing x w t fo p1).2).2.2.1 ((f_X4_casing g p1).2) ((f_L_casing x w t fo p1).2).2.2.2 fd

def f_law_7 (F : XS → WS → WS → RS → TS → MS → (Nat → Int64) → (Nat → UInt64) → Int32) (x : XS) (w : WS) (v : WS) (r : RS) (t : TS) (g : MS) (fo : (Nat → Int64)) (fd : (Nat → UInt64)) (p1 : Int32) : Int32 :=
  if (f_X4_thrown ((f_X4_casing g p1).2)) = (f_L_casing x w t fo p1).1 then (if (f_L_casing x w t fo p1).1 = 0 then (if (lg_cmp (((f_L_casing x w t fo p1).2).2.2.2 (0 : Int32).toNatClampNeg) (f_X4_casing g p1).1.toInt64) = 0 then (f_L_law_b605 x w v r t g fo fd F p1) else (0 : Int32)) else (f_L_law_b605 x w v r t g fo fd F p1)) else (0 : Int32)

def ok_law_7 (g : MS) (p1 : Int32) : Prop :=
  (ok_X4_casing g p1) ∧ True

set_option maxRecDepth 100000 in
set_option maxHeartbeats 8000000 in
theorem c_law_7 {p : Program} {l : Launch} {e : Env} {s : State} {m : MethodId} {args : Array Value} {below : List Frame} {meth : Method} {c : Code} {H : Heap} {locs : List Loc} {cs ss : Nat} {Q : State → Prop} {D : va_G} {q : Nat → ClassId} {A : Nat → Prop} {b L : Nat} {xs : Nat → Int32} {ls : Array Slot} (h aw av ao ad : Nat) (kr kt km : Nat → Nat) (x : XS) (w : WS) (v : WS) (r : RS) (t : TS) (g : MS) (fo : (Nat → Int64)) (fd : (Nat → UInt64)) (p1 p2 p3 p4 p5 i : Int32) (N : Nat) (F : XS → WS → WS → RS → TS → MS → (Nat → Int64) → (Nat → UInt64) → Int32) (hstk : l.stackTraces = false) (fx : FX p s m args c RL code 9 D q) (hSX : SX s) (hSZ0 : SZ A s s.heap) (hX : va_X b L xs s s.heap) (hbl : b < s.heap.size) (hbA : ¬ A b) (hA : ∀ a, s.heap.size ≤ a → A a) (hD : ∀ (x : XS) (w : WS) (v : WS) (r : RS) (t : TS) (g : MS) (fo : (Nat → Int64)) (fd : (Nat → UInt64)), va_D A (cLaw h aw av kr kt km ao ad q x w v r t g fo fd)) (hv1 : vp_in (i + (1 : Int32)) L) (hp1 : xs (i + (1 : Int32)).toNatClampNeg = p1) (hv2 : vp_in (i + (2 : Int32)) L) (hp2 : xs (i + (2 : Int32)).toNatClampNeg = p2) (hv3 : vp_in (i + (3 : Int32)) L) (hp3 : xs (i + (3 : Int32)).toNatClampNeg = p3) (hv4 : vp_in (i + (4 : Int32)) L) (hp4 : xs (i + (4 : Int32)).toNatClampNeg = p4) (hv5 : vp_in (i + (5 : Int32)) L) (hp5 : xs (i + (5 : Int32)).toNatClampNeg = p5) (hcs : cs + 1 ≤ room_1.cells ∧ ss + 6 ≤ room_1.slots) (hok : ok_law_7 g p1) (hT : f_law_7 F x w v r t g fo fd p1 = 1)
    (hrec : ∀ (x : XS) (w : WS) (v : WS) (r : RS) (t : TS) (g : MS) (fo : (Nat → Int64)) (fd : (Nat → UInt64)) (H : Heap) (locs : List Loc) (ls : Array Slot), F x w v r t g fo fd = 1 → va_P D vwCl (cLaw h aw av kr kt km ao ad q x w v r t g fo fd) H → va_S A s.heap H locs → lv_has ls 9 [(0, .ref b), (1, .ref h), (2, .ref (km 0)), (3, .ref ao), (4, .ref ad), (5, .int i)] → W p l e room_1 s m args below meth c H locs (cs + 1) (ss + 6) Q (F0 m 1402 ls []))
    (hP : va_P D vwCl (cLaw h aw av kr kt km ao ad q x w v r t g fo fd) H) (hS : va_S A s.heap H locs) (hl : lv_has ls 9 [(0, .ref b), (1, .ref h), (2, .ref (km 0)), (3, .ref ao), (4, .ref ad), (5, .int i)]) : W p l e room_1 s m args below meth c H locs cs ss Q (F0 m 552 ls []) := by
  have hx := fx.1
  have hb := fx.2.1
  have ht : f_law_7 F x w v r t g fo fd p1 = f_law_7 F x w v r t g fo fd p1 := rfl
  simp only [ok_law_7] at hok
  refine lv_aload_n hx hb dL_law_552 rfl (lv_at hl 1 rfl) ?_
  refine lv_aload_n hx hb dL_law_553 rfl (lv_at hl 0 rfl) ?_
  refine lv_iload hx hb dL_law_554 (lv_at hl 5 rfl) ?_
  refine lv_iconst (v := 1) hx hb dL_law_556 (by decide) ?_
  refine lv_iadd hx hb dL_law_557 ?_
  refine sld hx hb hX hbl hbA hS hv1 hp1 dL_law_558 ?_
  refine lv_aload_n hx hb dL_law_559 rfl (lv_at hl 3 rfl) ?_
  refine kW1_i (wrun fx hSX (SZ.kept hSZ0 hS.2.1) (As := [.ref h, .int p1, .ref ao]) (rest := []) (c_L_casing l D q H.size h aw av kr kt ao x w v r t fo p1 hstk) lk_L_119 ⟨Nat.le_of_ble_eq_true rfl, Nat.le_of_ble_eq_true rfl⟩ ⟨rfl, rfl⟩ hP (hD _ _ _ _ _ _ _ _) hS hA [0, 1, 2, 3, 4, 5, 6, 7, 8, 9, 10, 11, 12, 13, 25] rfl rfl rfl hl.1 rfl (Nat.le_of_ble_eq_true rfl) dL_law_560 hcs) hP (hD _ _ _ _ _ _ _ _) hS hA [0, 1, 2, 3, 4, 5, 6, 7, 8, 9, 10, 11, 12, 13, 25] rfl (fun _ => rfl) (fun r3 u1 H locs hw2 hP hS => ?_)
  have hP : va_P D vwCl (cLaw h aw av kr kt km ao ad q u1.1 u1.2.1 v r u1.2.2.1 g u1.2.2.2 fd) H := hP
  try simp only [hw2] at hok
  refine lv_istore (lv' := [(6, .int r3), (0, .ref b), (1, .ref h), (2, .ref (km 0)), (3, .ref ao), (4, .ref ad), (5, .int i)]) hx hb dL_law_563 hl (by decide) rfl (fun ls hl => ?_)
  refine lv_aload_n hx hb dL_law_565 rfl (lv_at hl 3 rfl) ?_
  refine lv_aload_n hx hb dL_law_566 rfl (lv_at hl 1 rfl) ?_
  refine lv_iload hx hb dL_law_567 (lv_at hl 6 rfl) ?_
  refine lv_iconst (v := 1) hx hb dL_law_569 (by decide) ?_
  refine lv_iadd hx hb dL_law_570 ?_
  refine sld hx hb hX hbl hbA hS hv1 hp1 dL_law_571 ?_
  obtain ⟨hk4, hok⟩ := hok
  refine kW_i (runV fx (As := [.int p1]) (rest := []) (c_X4_casing l D q H.size km g p1 hk4) lk_L_121 ⟨Nat.le_of_ble_eq_true rfl, Nat.le_of_ble_eq_true rfl⟩ ⟨rfl, rfl⟩ hP (hD _ _ _ _ _ _ _ _) [14, 15, 16, 17, 18, 19, 20, 21, 22, 23, 24] rfl rfl (ci := 4) rfl rfl rfl hl.1 rfl (Nat.le_of_ble_eq_true rfl) dL_law_572 ⟨by have := hcs.1; omega, by have := hcs.2; omega⟩) hP (hD _ _ _ _ _ _ _ _) hS hA [14, 15, 16, 17, 18, 19, 20, 21, 22, 23, 24] rfl (fun _ => rfl) (fun r7 u5 H locs hw6 hP hS => ?_)
  have hP : va_P D vwCl (cLaw h aw av kr kt km ao ad q u1.1 u1.2.1 v r u1.2.2.1 u5 u1.2.2.2 fd) H := hP
  try simp only [hw6] at hok
  refine lv_istore (lv' := [(7, .int r7), (6, .int r3), (0, .ref b), (1, .ref h), (2, .ref (km 0)), (3, .ref ao), (4, .ref ad), (5, .int i)]) hx hb dL_law_575 hl (by decide) rfl (fun ls hl => ?_)
  refine lv_aload_n hx hb dL_law_577 rfl (lv_at hl 4 rfl) ?_
  refine kR_i (runV fx (As := []) (rest := []) (c_X4_thrown l D q H.size km u5) lk_L_94 ⟨Nat.le_of_ble_eq_true rfl, Nat.le_of_ble_eq_true rfl⟩ ⟨rfl, rfl⟩ hP (hD _ _ _ _ _ _ _ _) [14, 15, 16, 17, 18, 19, 20, 21, 22, 23, 24] rfl rfl (ci := 4) rfl rfl rfl hl.1 rfl (Nat.le_of_ble_eq_true rfl) dL_law_578 ⟨by have := hcs.1; omega, by have := hcs.2; omega⟩) hP hS (fun r8 _ H locs hr9 hP hS => ?_)
  subst hr9
  refine lv_iload hx hb dL_law_581 (lv_at hl 1 rfl) ?_
  refine lv_icmp_eq (tgt := 588) hx hb dL_law_583 (by decide) (fun c10 => ?_) (fun c10 => ?_)
  · refine lv_iload hx hb dL_law_588 (lv_at hl 1 rfl) ?_
    have K605 : ∀ (H : Heap) (locs : List Loc) (ls : Array Slot), f_law_7 F x w v r t g fo fd p1 = f_L_law_b605 x w v r t g fo fd F p1 → va_P D vwCl (cLaw h aw av kr kt km ao ad q u1.1 u1.2.1 v r u1.2.2.1 u5 u1.2.2.2 fd) H → va_S A s.heap H locs → lv_has ls 9 [(0, .ref b), (1, .ref h), (2, .ref (km 0)), (3, .ref ao), (4, .ref ad), (5, .int i)] → W p l e room_1 s m args below meth c H locs (cs + 1) (ss + 6) Q (F0 m 605 ls []) := by
      intro H locs ls ht hP hS hl
      refine lv_goto (tgt := 1402) hx hb dL_law_605 (by decide) ?_
      exact hrec u1.1 u1.2.1 v r u1.2.2.1 u5 u1.2.2.2 fd H locs ls ((show f_law_7 F x w v r t g fo fd p1 = F u1.1 u1.2.1 v r u1.2.2.1 u5 u1.2.2.2 fd from ht.trans (by simp only [f_L_law_b605, hw2, hw6])).symm.trans hT) hP hS (lv_sub hl [0, 1, 2, 3, 4, 5] rfl)
    refine lv_if_ne (tgt := 605) hx hb dL_law_590 (by decide) (fun c13 => ?_) (fun c13 => ?_)
    · exact K605 H locs ls (ht.trans (by first | (simp only [f_law_7, if_pos c10, if_neg c13, hw2, hw6]; done) | (simp only [f_law_7, hw2, hw6]; simp only [if_pos c10, if_neg c13]))) hP hS (lv_sub hl [2, 3, 4, 5, 6, 7] rfl)
    · refine lv_aload_n hx hb dL_law_593 rfl (lv_at hl 5 rfl) ?_
      refine lv_iconst (v := 0) hx hb dL_law_594 (by decide) ?_
      refine va_lald hx hb fx.2.2.2.2.2.1 hP 25 2 (f := u1.2.2.2) rfl rfl (by unfold vp_in; decide) dL_law_595 ?_
      refine lv_iload hx hb dL_law_596 (lv_at hl 0 rfl) ?_
      refine lv_i2l (v := r7.toInt64) hx hb dL_law_598 rfl ?_
      refine W.lcmp hx hb dL_law_599 ?_
      refine lv_if_eq (tgt := 605) hx hb dL_law_600 (by decide) (fun c14 => ?_) (fun c14 => ?_)
      · exact K605 H locs ls (ht.trans (by first | (simp only [f_law_7, if_pos c10, if_pos c13, if_pos c14, hw2, hw6]; done) | (simp only [f_law_7, hw2, hw6]; simp only [if_pos c10, if_pos c13, if_pos c14]))) hP hS (lv_sub hl [2, 3, 4, 5, 6, 7] rfl)
      · refine lv_iconst (v := 0) hx hb dL_law_603 (by decide) ?_
        exact absurd ((show f_law_7 F x w v r t g fo fd p1 = (0 : Int32) from ht.trans (by first | (simp only [f_law_7, if_pos c10, if_pos c13, if_neg c14, hw2, hw6]; done) | (simp only [f_law_7, hw2, hw6]; simp only [if_pos c10, if_pos c13, if_neg c14]))).symm.trans hT) (by decide)
  · refine lv_iconst (v := 0) hx hb dL_law_586 (by decide) ?_
    exact absurd ((show f_law_7 F x w v r t g fo fd p1 = (0 : Int32) from ht.trans (by first | (simp only [f_law_7, if_neg c10, hw2, hw6]; done) | (simp only [f_law_7, hw2, hw6]; simp only [if_neg c10]))).symm.trans hT) (by decide)

def f_L_law_b661 (x : XS) (w : WS) (v : WS) (r : RS) (t : TS) (g : MS) (fo : (Nat → Int64)) (fd : (Nat → UInt64)) (F : XS → WS → WS → RS → TS → MS → (Nat → Int64) → (Nat → UInt64) → Int32) (p1 : Int32) : Int32 :=
  F x ((f_L_strength w fo p1).2).1 v r t ((f_X4_strength g p1).2) ((f_L_strength w fo p1).2).2 fd

def f_law_8 (F : XS → WS → WS → RS → TS → MS → (Nat → Int64) → (Nat → UInt64) → Int32) (x : XS) (w : WS) (v : WS) (r : RS) (t : TS) (g : MS) (fo : (Nat → Int64)) (fd : (Nat → UInt64)) (p1 : Int32) : Int32 :=
  if (f_X4_thrown ((f_X4_strength g p1).2)) = (f_L_strength w fo p1).1 then (if (f_L_strength w fo p1).1 = 0 then (if (lg_cmp (((f_L_strength w fo p1).2).2 (0 : Int32).toNatClampNeg) (f_X4_strength g p1).1.toInt64) = 0 then (f_L_law_b661 x w v r t g fo fd F p1) else (0 : Int32)) else (f_L_law_b661 x w v r t g fo fd F p1)) else (0 : Int32)

set_option maxRecDepth 100000 in
set_option maxHeartbeats 8000000 in
theorem c_law_8 {p : Program} {l : Launch} {e : Env} {s : State} {m : MethodId} {args : Array Value} {below : List Frame} {meth : Method} {c : Code} {H : Heap} {locs : List Loc} {cs ss : Nat} {Q : State → Prop} {D : va_G} {q : Nat → ClassId} {A : Nat → Prop} {b L : Nat} {xs : Nat → Int32} {ls : Array Slot} (h aw av ao ad : Nat) (kr kt km : Nat → Nat) (x : XS) (w : WS) (v : WS) (r : RS) (t : TS) (g : MS) (fo : (Nat → Int64)) (fd : (Nat → UInt64)) (p1 p2 p3 p4 p5 i : Int32) (N : Nat) (F : XS → WS → WS → RS → TS → MS → (Nat → Int64) → (Nat → UInt64) → Int32) (hstk : l.stackTraces = false) (fx : FX p s m args c RL code 9 D q) (hSX : SX s) (hSZ0 : SZ A s s.heap) (hX : va_X b L xs s s.heap) (hbl : b < s.heap.size) (hbA : ¬ A b) (hA : ∀ a, s.heap.size ≤ a → A a) (hD : ∀ (x : XS) (w : WS) (v : WS) (r : RS) (t : TS) (g : MS) (fo : (Nat → Int64)) (fd : (Nat → UInt64)), va_D A (cLaw h aw av kr kt km ao ad q x w v r t g fo fd)) (hv1 : vp_in (i + (1 : Int32)) L) (hp1 : xs (i + (1 : Int32)).toNatClampNeg = p1) (hv2 : vp_in (i + (2 : Int32)) L) (hp2 : xs (i + (2 : Int32)).toNatClampNeg = p2) (hv3 : vp_in (i + (3 : Int32)) L) (hp3 : xs (i + (3 : Int32)).toNatClampNeg = p3) (hv4 : vp_in (i + (4 : Int32)) L) (hp4 : xs (i + (4 : Int32)).toNatClampNeg = p4) (hv5 : vp_in (i + (5 : Int32)) L) (hp5 : xs (i + (5 : Int32)).toNatClampNeg = p5) (hcs : cs + 1 ≤ room_1.cells ∧ ss + 6 ≤ room_1.slots) (hT : f_law_8 F x w v r t g fo fd p1 = 1)
    (hrec : ∀ (x : XS) (w : WS) (v : WS) (r : RS) (t : TS) (g : MS) (fo : (Nat → Int64)) (fd : (Nat → UInt64)) (H : Heap) (locs : List Loc) (ls : Array Slot), F x w v r t g fo fd = 1 → va_P D vwCl (cLaw h aw av kr kt km ao ad q x w v r t g fo fd) H → va_S A s.heap H locs → lv_has ls 9 [(0, .ref b), (1, .ref h), (2, .ref (km 0)), (3, .ref ao), (4, .ref ad), (5, .int i)] → W p l e room_1 s m args below meth c H locs (cs + 1) (ss + 6) Q (F0 m 1402 ls []))
    (hP : va_P D vwCl (cLaw h aw av kr kt km ao ad q x w v r t g fo fd) H) (hS : va_S A s.heap H locs) (hl : lv_has ls 9 [(0, .ref b), (1, .ref h), (2, .ref (km 0)), (3, .ref ao), (4, .ref ad), (5, .int i)]) : W p l e room_1 s m args below meth c H locs cs ss Q (F0 m 608 ls []) := by
  have hx := fx.1
  have hb := fx.2.1
  have ht : f_law_8 F x w v r t g fo fd p1 = f_law_8 F x w v r t g fo fd p1 := rfl
  refine lv_aload_n hx hb dL_law_608 rfl (lv_at hl 1 rfl) ?_
  refine lv_aload_n hx hb dL_law_609 rfl (lv_at hl 0 rfl) ?_
  refine lv_iload hx hb dL_law_610 (lv_at hl 5 rfl) ?_
  refine lv_iconst (v := 1) hx hb dL_law_612 (by decide) ?_
  refine lv_iadd hx hb dL_law_613 ?_
  refine sld hx hb hX hbl hbA hS hv1 hp1 dL_law_614 ?_
  refine lv_aload_n hx hb dL_law_615 rfl (lv_at hl 3 rfl) ?_
  refine kW1_i (wrun fx hSX (SZ.kept hSZ0 hS.2.1) (As := [.ref h, .int p1, .ref ao]) (rest := []) (c_L_strength l D q H.size h aw av kr kt ao x w v r t fo p1 hstk) lk_L_122 ⟨Nat.le_of_ble_eq_true rfl, Nat.le_of_ble_eq_true rfl⟩ ⟨rfl, rfl⟩ hP (hD _ _ _ _ _ _ _ _) hS hA [0, 1, 2, 3, 4, 5, 6, 7, 8, 9, 10, 11, 12, 13, 25] rfl rfl rfl hl.1 rfl (Nat.le_of_ble_eq_true rfl) dL_law_616 hcs) hP (hD _ _ _ _ _ _ _ _) hS hA [0, 1, 2, 3, 4, 5, 6, 7, 8, 9, 10, 11, 12, 13, 25] rfl (fun _ => rfl) (fun r3 u1 H locs hw2 hP hS => ?_)
  have hP : va_P D vwCl (cLaw h aw av kr kt km ao ad q x u1.1 v r t g u1.2 fd) H := hP
  refine lv_istore (lv' := [(6, .int r3), (0, .ref b), (1, .ref h), (2, .ref (km 0)), (3, .ref ao), (4, .ref ad), (5, .int i)]) hx hb dL_law_619 hl (by decide) rfl (fun ls hl => ?_)
  refine lv_aload_n hx hb dL_law_621 rfl (lv_at hl 3 rfl) ?_
  refine lv_aload_n hx hb dL_law_622 rfl (lv_at hl 1 rfl) ?_
  refine lv_iload hx hb dL_law_623 (lv_at hl 6 rfl) ?_
  refine lv_iconst (v := 1) hx hb dL_law_625 (by decide) ?_
  refine lv_iadd hx hb dL_law_626 ?_
  refine sld hx hb hX hbl hbA hS hv1 hp1 dL_law_627 ?_
  refine kW_i (runV fx (As := [.int p1]) (rest := []) (c_X4_strength l D q H.size km g p1) lk_L_124 ⟨Nat.le_of_ble_eq_true rfl, Nat.le_of_ble_eq_true rfl⟩ ⟨rfl, rfl⟩ hP (hD _ _ _ _ _ _ _ _) [14, 15, 16, 17, 18, 19, 20, 21, 22, 23, 24] rfl rfl (ci := 4) rfl rfl rfl hl.1 rfl (Nat.le_of_ble_eq_true rfl) dL_law_628 ⟨by have := hcs.1; omega, by have := hcs.2; omega⟩) hP (hD _ _ _ _ _ _ _ _) hS hA [14, 15, 16, 17, 18, 19, 20, 21, 22, 23, 24] rfl (fun _ => rfl) (fun r6 u4 H locs hw5 hP hS => ?_)
  have hP : va_P D vwCl (cLaw h aw av kr kt km ao ad q x u1.1 v r t u4 u1.2 fd) H := hP
  refine lv_istore (lv' := [(7, .int r6), (6, .int r3), (0, .ref b), (1, .ref h), (2, .ref (km 0)), (3, .ref ao), (4, .ref ad), (5, .int i)]) hx hb dL_law_631 hl (by decide) rfl (fun ls hl => ?_)
  refine lv_aload_n hx hb dL_law_633 rfl (lv_at hl 4 rfl) ?_
  refine kR_i (runV fx (As := []) (rest := []) (c_X4_thrown l D q H.size km u4) lk_L_94 ⟨Nat.le_of_ble_eq_true rfl, Nat.le_of_ble_eq_true rfl⟩ ⟨rfl, rfl⟩ hP (hD _ _ _ _ _ _ _ _) [14, 15, 16, 17, 18, 19, 20, 21, 22, 23, 24] rfl rfl (ci := 4) rfl rfl rfl hl.1 rfl (Nat.le_of_ble_eq_true rfl) dL_law_634 ⟨by have := hcs.1; omega, by have := hcs.2; omega⟩) hP hS (fun r7 _ H locs hr8 hP hS => ?_)
  subst hr8
  refine lv_iload hx hb dL_law_637 (lv_at hl 1 rfl) ?_
  refine lv_icmp_eq (tgt := 644) hx hb dL_law_639 (by decide) (fun c9 => ?_) (fun c9 => ?_)
  · refine lv_iload hx hb dL_law_644 (lv_at hl 1 rfl) ?_
    have K661 : ∀ (H : Heap) (locs : List Loc) (ls : Array Slot), f_law_8 F x w v r t g fo fd p1 = f_L_law_b661 x w v r t g fo fd F p1 → va_P D vwCl (cLaw h aw av kr kt km ao ad q x u1.1 v r t u4 u1.2 fd) H → va_S A s.heap H locs → lv_has ls 9 [(0, .ref b), (1, .ref h), (2, .ref (km 0)), (3, .ref ao), (4, .ref ad), (5, .int i)] → W p l e room_1 s m args below meth c H locs (cs + 1) (ss + 6) Q (F0 m 661 ls []) := by
      intro H locs ls ht hP hS hl
      refine lv_goto (tgt := 1402) hx hb dL_law_661 (by decide) ?_
      exact hrec x u1.1 v r t u4 u1.2 fd H locs ls ((show f_law_8 F x w v r t g fo fd p1 = F x u1.1 v r t u4 u1.2 fd from ht.trans (by simp only [f_L_law_b661, hw2, hw5])).symm.trans hT) hP hS (lv_sub hl [0, 1, 2, 3, 4, 5] rfl)
    refine lv_if_ne (tgt := 661) hx hb dL_law_646 (by decide) (fun c12 => ?_) (fun c12 => ?_)
    · exact K661 H locs ls (ht.trans (by first | (simp only [f_law_8, if_pos c9, if_neg c12, hw2, hw5]; done) | (simp only [f_law_8, hw2, hw5]; simp only [if_pos c9, if_neg c12]))) hP hS (lv_sub hl [2, 3, 4, 5, 6, 7] rfl)
    · refine lv_aload_n hx hb dL_law_649 rfl (lv_at hl 5 rfl) ?_
      refine lv_iconst (v := 0) hx hb dL_law_650 (by decide) ?_
      refine va_lald hx hb fx.2.2.2.2.2.1 hP 25 2 (f := u1.2) rfl rfl (by unfold vp_in; decide) dL_law_651 ?_
      refine lv_iload hx hb dL_law_652 (lv_at hl 0 rfl) ?_
      refine lv_i2l (v := r6.toInt64) hx hb dL_law_654 rfl ?_
      refine W.lcmp hx hb dL_law_655 ?_
      refine lv_if_eq (tgt := 661) hx hb dL_law_656 (by decide) (fun c13 => ?_) (fun c13 => ?_)
      · exact K661 H locs ls (ht.trans (by first | (simp only [f_law_8, if_pos c9, if_pos c12, if_pos c13, hw2, hw5]; done) | (simp only [f_law_8, hw2, hw5]; simp only [if_pos c9, if_pos c12, if_pos c13]))) hP hS (lv_sub hl [2, 3, 4, 5, 6, 7] rfl)
      · refine lv_iconst (v := 0) hx hb dL_law_659 (by decide) ?_
        exact absurd ((show f_law_8 F x w v r t g fo fd p1 = (0 : Int32) from ht.trans (by first | (simp only [f_law_8, if_pos c9, if_pos c12, if_neg c13, hw2, hw5]; done) | (simp only [f_law_8, hw2, hw5]; simp only [if_pos c9, if_pos c12, if_neg c13]))).symm.trans hT) (by decide)
  · refine lv_iconst (v := 0) hx hb dL_law_642 (by decide) ?_
    exact absurd ((show f_law_8 F x w v r t g fo fd p1 = (0 : Int32) from ht.trans (by first | (simp only [f_law_8, if_neg c9, hw2, hw5]; done) | (simp only [f_law_8, hw2, hw5]; simp only [if_neg c9]))).symm.trans hT) (by decide)

def f_L_law_b736 (x : XS) (w : WS) (v : WS) (r : RS) (t : TS) (g : MS) (fo : (Nat → Int64)) (fd : (Nat → UInt64)) (F : XS → WS → WS → RS → TS → MS → (Nat → Int64) → (Nat → UInt64) → Int32) (p1 : Int32) (p2 : Int32) : Int32 :=
  F x ((f_L_test x w t fo p1 p2).2).1 v r ((f_L_test x w t fo p1 p2).2).2.1 ((f_X4_test g p1 p2).2) ((f_L_test x w t fo p1 p2).2).2.2 fd

def f_law_9 (F : XS → WS → WS → RS → TS → MS → (Nat → Int64) → (Nat → UInt64) → Int32) (x : XS) (w : WS) (v : WS) (r : RS) (t : TS) (g : MS) (fo : (Nat → Int64)) (fd : (Nat → UInt64)) (p1 : Int32) (p2 : Int32) : Int32 :=
  if (f_X4_thrown ((f_X4_test g p1 p2).2)) = (f_L_test x w t fo p1 p2).1 then (if (f_L_test x w t fo p1 p2).1 = 0 then (if (lg_cmp (((f_L_test x w t fo p1 p2).2).2.2 (0 : Int32).toNatClampNeg) (if (f_X4_test g p1 p2).1 = 0 then (0 : Int64) else (1 : Int64))) = 0 then (f_L_law_b736 x w v r t g fo fd F p1 p2) else (0 : Int32)) else (f_L_law_b736 x w v r t g fo fd F p1 p2)) else (0 : Int32)

def ok_law_9 (g : MS) (p1 : Int32) (p2 : Int32) : Prop :=
  (ok_X4_test g p1 p2) ∧ True

set_option maxRecDepth 100000 in
set_option maxHeartbeats 8000000 in
theorem c_law_9 {p : Program} {l : Launch} {e : Env} {s : State} {m : MethodId} {args : Array Value} {below : List Frame} {meth : Method} {c : Code} {H : Heap} {locs : List Loc} {cs ss : Nat} {Q : State → Prop} {D : va_G} {q : Nat → ClassId} {A : Nat → Prop} {b L : Nat} {xs : Nat → Int32} {ls : Array Slot} (h aw av ao ad : Nat) (kr kt km : Nat → Nat) (x : XS) (w : WS) (v : WS) (r : RS) (t : TS) (g : MS) (fo : (Nat → Int64)) (fd : (Nat → UInt64)) (p1 p2 p3 p4 p5 i : Int32) (N : Nat) (F : XS → WS → WS → RS → TS → MS → (Nat → Int64) → (Nat → UInt64) → Int32) (hstk : l.stackTraces = false) (fx : FX p s m args c RL code 9 D q) (hSX : SX s) (hSZ0 : SZ A s s.heap) (hX : va_X b L xs s s.heap) (hbl : b < s.heap.size) (hbA : ¬ A b) (hA : ∀ a, s.heap.size ≤ a → A a) (hD : ∀ (x : XS) (w : WS) (v : WS) (r : RS) (t : TS) (g : MS) (fo : (Nat → Int64)) (fd : (Nat → UInt64)), va_D A (cLaw h aw av kr kt km ao ad q x w v r t g fo fd)) (hv1 : vp_in (i + (1 : Int32)) L) (hp1 : xs (i + (1 : Int32)).toNatClampNeg = p1) (hv2 : vp_in (i + (2 : Int32)) L) (hp2 : xs (i + (2 : Int32)).toNatClampNeg = p2) (hv3 : vp_in (i + (3 : Int32)) L) (hp3 : xs (i + (3 : Int32)).toNatClampNeg = p3) (hv4 : vp_in (i + (4 : Int32)) L) (hp4 : xs (i + (4 : Int32)).toNatClampNeg = p4) (hv5 : vp_in (i + (5 : Int32)) L) (hp5 : xs (i + (5 : Int32)).toNatClampNeg = p5) (hcs : cs + 1 ≤ room_1.cells ∧ ss + 6 ≤ room_1.slots) (hok : ok_law_9 g p1 p2) (hT : f_law_9 F x w v r t g fo fd p1 p2 = 1)
    (hrec : ∀ (x : XS) (w : WS) (v : WS) (r : RS) (t : TS) (g : MS) (fo : (Nat → Int64)) (fd : (Nat → UInt64)) (H : Heap) (locs : List Loc) (ls : Array Slot), F x w v r t g fo fd = 1 → va_P D vwCl (cLaw h aw av kr kt km ao ad q x w v r t g fo fd) H → va_S A s.heap H locs → lv_has ls 9 [(0, .ref b), (1, .ref h), (2, .ref (km 0)), (3, .ref ao), (4, .ref ad), (5, .int i)] → W p l e room_1 s m args below meth c H locs (cs + 1) (ss + 6) Q (F0 m 1402 ls []))
    (hP : va_P D vwCl (cLaw h aw av kr kt km ao ad q x w v r t g fo fd) H) (hS : va_S A s.heap H locs) (hl : lv_has ls 9 [(0, .ref b), (1, .ref h), (2, .ref (km 0)), (3, .ref ao), (4, .ref ad), (5, .int i)]) : W p l e room_1 s m args below meth c H locs cs ss Q (F0 m 664 ls []) := by
  have hx := fx.1
  have hb := fx.2.1
  have ht : f_law_9 F x w v r t g fo fd p1 p2 = f_law_9 F x w v r t g fo fd p1 p2 := rfl
  simp only [ok_law_9] at hok
  refine lv_aload_n hx hb dL_law_664 rfl (lv_at hl 1 rfl) ?_
  refine lv_aload_n hx hb dL_law_665 rfl (lv_at hl 0 rfl) ?_
  refine lv_iload hx hb dL_law_666 (lv_at hl 5 rfl) ?_
  refine lv_iconst (v := 1) hx hb dL_law_668 (by decide) ?_
  refine lv_iadd hx hb dL_law_669 ?_
  refine sld hx hb hX hbl hbA hS hv1 hp1 dL_law_670 ?_
  refine lv_aload_n hx hb dL_law_671 rfl (lv_at hl 0 rfl) ?_
  refine lv_iload hx hb dL_law_672 (lv_at hl 5 rfl) ?_
  refine lv_iconst (v := 2) hx hb dL_law_674 (by decide) ?_
  refine lv_iadd hx hb dL_law_675 ?_
  refine sld hx hb hX hbl hbA hS hv2 hp2 dL_law_676 ?_
  refine lv_aload_n hx hb dL_law_677 rfl (lv_at hl 3 rfl) ?_
  refine kW1_i (wrun fx hSX (SZ.kept hSZ0 hS.2.1) (As := [.ref h, .int p1, .int p2, .ref ao]) (rest := []) (c_L_test l D q H.size h aw av kr kt ao x w v r t fo p1 p2 hstk) lk_L_125 ⟨Nat.le_of_ble_eq_true rfl, Nat.le_of_ble_eq_true rfl⟩ ⟨rfl, rfl⟩ hP (hD _ _ _ _ _ _ _ _) hS hA [0, 1, 2, 3, 4, 5, 6, 7, 8, 9, 10, 11, 12, 13, 25] rfl rfl rfl hl.1 rfl (Nat.le_of_ble_eq_true rfl) dL_law_678 hcs) hP (hD _ _ _ _ _ _ _ _) hS hA [0, 1, 2, 3, 4, 5, 6, 7, 8, 9, 10, 11, 12, 13, 25] rfl (fun _ => rfl) (fun r3 u1 H locs hw2 hP hS => ?_)
  have hP : va_P D vwCl (cLaw h aw av kr kt km ao ad q x u1.1 v r u1.2.1 g u1.2.2 fd) H := hP
  try simp only [hw2] at hok
  refine lv_istore (lv' := [(6, .int r3), (0, .ref b), (1, .ref h), (2, .ref (km 0)), (3, .ref ao), (4, .ref ad), (5, .int i)]) hx hb dL_law_681 hl (by decide) rfl (fun ls hl => ?_)
  refine lv_aload_n hx hb dL_law_683 rfl (lv_at hl 3 rfl) ?_
  refine lv_aload_n hx hb dL_law_684 rfl (lv_at hl 1 rfl) ?_
  refine lv_iload hx hb dL_law_685 (lv_at hl 6 rfl) ?_
  refine lv_iconst (v := 1) hx hb dL_law_687 (by decide) ?_
  refine lv_iadd hx hb dL_law_688 ?_
  refine sld hx hb hX hbl hbA hS hv1 hp1 dL_law_689 ?_
  refine lv_aload_n hx hb dL_law_690 rfl (lv_at hl 1 rfl) ?_
  refine lv_iload hx hb dL_law_691 (lv_at hl 6 rfl) ?_
  refine lv_iconst (v := 2) hx hb dL_law_693 (by decide) ?_
  refine lv_iadd hx hb dL_law_694 ?_
  refine sld hx hb hX hbl hbA hS hv2 hp2 dL_law_695 ?_
  obtain ⟨hk4, hok⟩ := hok
  refine kW_i (runV fx (As := [.int p1, .int p2]) (rest := []) (c_X4_test l D q H.size km g p1 p2 hk4) lk_L_127 ⟨Nat.le_of_ble_eq_true rfl, Nat.le_of_ble_eq_true rfl⟩ ⟨rfl, rfl⟩ hP (hD _ _ _ _ _ _ _ _) [14, 15, 16, 17, 18, 19, 20, 21, 22, 23, 24] rfl rfl (ci := 4) rfl rfl rfl hl.1 rfl (Nat.le_of_ble_eq_true rfl) dL_law_696 ⟨by have := hcs.1; omega, by have := hcs.2; omega⟩) hP (hD _ _ _ _ _ _ _ _) hS hA [14, 15, 16, 17, 18, 19, 20, 21, 22, 23, 24] rfl (fun _ => rfl) (fun r7 u5 H locs hw6 hP hS => ?_)
  obtain ⟨hw6, hz8⟩ := hw6
  have hP : va_P D vwCl (cLaw h aw av kr kt km ao ad q x u1.1 v r u1.2.1 u5 u1.2.2 fd) H := hP
  try simp only [hw6] at hok
  refine lv_istore (lv' := [(7, .int r7), (6, .int r3), (0, .ref b), (1, .ref h), (2, .ref (km 0)), (3, .ref ao), (4, .ref ad), (5, .int i)]) hx hb dL_law_699 hl (by decide) rfl (fun ls hl => ?_)
  refine lv_aload_n hx hb dL_law_701 rfl (lv_at hl 4 rfl) ?_
  refine kR_i (runV fx (As := []) (rest := []) (c_X4_thrown l D q H.size km u5) lk_L_94 ⟨Nat.le_of_ble_eq_true rfl, Nat.le_of_ble_eq_true rfl⟩ ⟨rfl, rfl⟩ hP (hD _ _ _ _ _ _ _ _) [14, 15, 16, 17, 18, 19, 20, 21, 22, 23, 24] rfl rfl (ci := 4) rfl rfl rfl hl.1 rfl (Nat.le_of_ble_eq_true rfl) dL_law_702 ⟨by have := hcs.1; omega, by have := hcs.2; omega⟩) hP hS (fun r9 _ H locs hr10 hP hS => ?_)
  subst hr10
  refine lv_iload hx hb dL_law_705 (lv_at hl 1 rfl) ?_
  refine lv_icmp_eq (tgt := 712) hx hb dL_law_707 (by decide) (fun c11 => ?_) (fun c11 => ?_)
  · refine lv_iload hx hb dL_law_712 (lv_at hl 1 rfl) ?_
    have K736 : ∀ (H : Heap) (locs : List Loc) (ls : Array Slot), f_law_9 F x w v r t g fo fd p1 p2 = f_L_law_b736 x w v r t g fo fd F p1 p2 → va_P D vwCl (cLaw h aw av kr kt km ao ad q x u1.1 v r u1.2.1 u5 u1.2.2 fd) H → va_S A s.heap H locs → lv_has ls 9 [(0, .ref b), (1, .ref h), (2, .ref (km 0)), (3, .ref ao), (4, .ref ad), (5, .int i)] → W p l e room_1 s m args below meth c H locs (cs + 1) (ss + 6) Q (F0 m 736 ls []) := by
      intro H locs ls ht hP hS hl
      refine lv_goto (tgt := 1402) hx hb dL_law_736 (by decide) ?_
      exact hrec x u1.1 v r u1.2.1 u5 u1.2.2 fd H locs ls ((show f_law_9 F x w v r t g fo fd p1 p2 = F x u1.1 v r u1.2.1 u5 u1.2.2 fd from ht.trans (by simp only [f_L_law_b736, hw2, hw6])).symm.trans hT) hP hS (lv_sub hl [0, 1, 2, 3, 4, 5] rfl)
    refine lv_if_ne (tgt := 736) hx hb dL_law_714 (by decide) (fun c16 => ?_) (fun c16 => ?_)
    · exact K736 H locs ls (ht.trans (by first | (simp only [f_law_9, if_pos c11, if_neg c16, hw2, hw6]; done) | (simp only [f_law_9, hw2, hw6]; simp only [if_pos c11, if_neg c16]))) hP hS (lv_sub hl [2, 3, 4, 5, 6, 7] rfl)
    · refine lv_aload_n hx hb dL_law_717 rfl (lv_at hl 5 rfl) ?_
      refine lv_iconst (v := 0) hx hb dL_law_718 (by decide) ?_
      refine va_lald hx hb fx.2.2.2.2.2.1 hP 25 2 (f := u1.2.2) rfl rfl (by unfold vp_in; decide) dL_law_719 ?_
      refine lv_iload hx hb dL_law_720 (lv_at hl 0 rfl) ?_
      suffices K : ∀ (v18 : Int64), ∀ (H : Heap) (locs : List Loc) (ls : Array Slot), v18 = (if r7 = 0 then (0 : Int64) else (1 : Int64)) → va_P D vwCl (cLaw h aw av kr kt km ao ad q x u1.1 v r u1.2.1 u5 u1.2.2 fd) H → va_S A s.heap H locs → lv_has ls 9 [(0, .ref b), (1, .ref h), (2, .ref (km 0)), (3, .ref ao), (4, .ref ad), (5, .int i)] → W p l e room_1 s m args below meth c H locs (cs + 1) (ss + 6) Q (F0 m 730 ls [.long v18, .long (u1.2.2 (0 : Int32).toNatClampNeg)]) by
        refine lv_if_eq (tgt := 729) hx hb dL_law_722 (by decide) (fun c17 => ?_) (fun c17 => ?_)
        · refine lv_lconst (v := 0) hx hb dL_law_729 (by decide) ?_
          exact K (0 : Int64) H locs ls (by simp only [if_pos c17, hw2, hw6]) hP hS (lv_sub hl [2, 3, 4, 5, 6, 7] rfl)
        · refine lv_lconst (v := 1) hx hb dL_law_725 (by decide) ?_
          refine lv_goto (tgt := 730) hx hb dL_law_726 (by decide) ?_
          exact K (1 : Int64) H locs ls (by simp only [if_neg c17, hw2, hw6]) hP hS (lv_sub hl [2, 3, 4, 5, 6, 7] rfl)
      intro v18 H locs ls hvv18 hP hS hl
      subst hvv18
      refine W.lcmp hx hb dL_law_730 ?_
      refine lv_if_eq (tgt := 736) hx hb dL_law_731 (by decide) (fun c19 => ?_) (fun c19 => ?_)
      · exact K736 H locs ls (ht.trans (by first | (simp only [f_law_9, if_pos c11, if_pos c16, if_pos c19, hw2, hw6]; done) | (simp only [f_law_9, hw2, hw6]; simp only [if_pos c11, if_pos c16, if_pos c19]))) hP hS (lv_sub hl [0, 1, 2, 3, 4, 5] rfl)
      · refine lv_iconst (v := 0) hx hb dL_law_734 (by decide) ?_
        exact absurd ((show f_law_9 F x w v r t g fo fd p1 p2 = (0 : Int32) from ht.trans (by first | (simp only [f_law_9, if_pos c11, if_pos c16, if_neg c19, hw2, hw6]; done) | (simp only [f_law_9, hw2, hw6]; simp only [if_pos c11, if_pos c16, if_neg c19]))).symm.trans hT) (by decide)
  · refine lv_iconst (v := 0) hx hb dL_law_710 (by decide) ?_
    exact absurd ((show f_law_9 F x w v r t g fo fd p1 p2 = (0 : Int32) from ht.trans (by first | (simp only [f_law_9, if_neg c11, hw2, hw6]; done) | (simp only [f_law_9, hw2, hw6]; simp only [if_neg c11]))).symm.trans hT) (by decide)

def f_L_law_b820 (N : Nat) (x : XS) (w : WS) (v : WS) (r : RS) (t : TS) (g : MS) (fo : (Nat → Int64)) (fd : (Nat → UInt64)) (F : XS → WS → WS → RS → TS → MS → (Nat → Int64) → (Nat → UInt64) → Int32) (p1 : Int32) (p2 : Int32) : Int32 :=
  F ((f_L_stop x fo p1 (if p2 = 0 then (0 : Int32) else (1 : Int32))).2).1 w v r t ((f_X4_stop N g p1 (if p2 = 0 then (0 : Int32) else (1 : Int32))).2) ((f_L_stop x fo p1 (if p2 = 0 then (0 : Int32) else (1 : Int32))).2).2 fd

def f_law_10 (N : Nat) (F : XS → WS → WS → RS → TS → MS → (Nat → Int64) → (Nat → UInt64) → Int32) (x : XS) (w : WS) (v : WS) (r : RS) (t : TS) (g : MS) (fo : (Nat → Int64)) (fd : (Nat → UInt64)) (p1 : Int32) (p2 : Int32) : Int32 :=
  if (f_X4_thrown ((f_X4_stop N g p1 (if p2 = 0 then (0 : Int32) else (1 : Int32))).2)) = (f_L_stop x fo p1 (if p2 = 0 then (0 : Int32) else (1 : Int32))).1 then (if (f_L_stop x fo p1 (if p2 = 0 then (0 : Int32) else (1 : Int32))).1 = 0 then (if (lg_cmp (((f_L_stop x fo p1 (if p2 = 0 then (0 : Int32) else (1 : Int32))).2).2 (0 : Int32).toNatClampNeg) (f_X4_stop N g p1 (if p2 = 0 then (0 : Int32) else (1 : Int32))).1.toInt64) = 0 then (f_L_law_b820 N x w v r t g fo fd F p1 p2) else (0 : Int32)) else (f_L_law_b820 N x w v r t g fo fd F p1 p2)) else (0 : Int32)

def ok_law_10 (N : Nat) (g : MS) (p1 : Int32) (p2 : Int32) : Prop :=
  (ok_X4_stop N g p1 (if p2 = 0 then (0 : Int32) else (1 : Int32))) ∧ True

set_option maxRecDepth 100000 in
set_option maxHeartbeats 8000000 in
theorem c_law_10 {p : Program} {l : Launch} {e : Env} {s : State} {m : MethodId} {args : Array Value} {below : List Frame} {meth : Method} {c : Code} {H : Heap} {locs : List Loc} {cs ss : Nat} {Q : State → Prop} {D : va_G} {q : Nat → ClassId} {A : Nat → Prop} {b L : Nat} {xs : Nat → Int32} {ls : Array Slot} (h aw av ao ad : Nat) (kr kt km : Nat → Nat) (x : XS) (w : WS) (v : WS) (r : RS) (t : TS) (g : MS) (fo : (Nat → Int64)) (fd : (Nat → UInt64)) (p1 p2 p3 p4 p5 i : Int32) (N : Nat) (F : XS → WS → WS → RS → TS → MS → (Nat → Int64) → (Nat → UInt64) → Int32) (hstk : l.stackTraces = false) (fx : FX p s m args c RL code 9 D q) (hSX : SX s) (hSZ0 : SZ A s s.heap) (hX : va_X b L xs s s.heap) (hbl : b < s.heap.size) (hbA : ¬ A b) (hA : ∀ a, s.heap.size ≤ a → A a) (hD : ∀ (x : XS) (w : WS) (v : WS) (r : RS) (t : TS) (g : MS) (fo : (Nat → Int64)) (fd : (Nat → UInt64)), va_D A (cLaw h aw av kr kt km ao ad q x w v r t g fo fd)) (hv1 : vp_in (i + (1 : Int32)) L) (hp1 : xs (i + (1 : Int32)).toNatClampNeg = p1) (hv2 : vp_in (i + (2 : Int32)) L) (hp2 : xs (i + (2 : Int32)).toNatClampNeg = p2) (hv3 : vp_in (i + (3 : Int32)) L) (hp3 : xs (i + (3 : Int32)).toNatClampNeg = p3) (hv4 : vp_in (i + (4 : Int32)) L) (hp4 : xs (i + (4 : Int32)).toNatClampNeg = p4) (hv5 : vp_in (i + (5 : Int32)) L) (hp5 : xs (i + (5 : Int32)).toNatClampNeg = p5) (hcs : cs + 1 ≤ room_1.cells ∧ ss + 6 ≤ room_1.slots) (hok : ok_law_10 N g p1 p2) (hT : f_law_10 N F x w v r t g fo fd p1 p2 = 1)
    (hrec : ∀ (x : XS) (w : WS) (v : WS) (r : RS) (t : TS) (g : MS) (fo : (Nat → Int64)) (fd : (Nat → UInt64)) (H : Heap) (locs : List Loc) (ls : Array Slot), F x w v r t g fo fd = 1 → va_P D vwCl (cLaw h aw av kr kt km ao ad q x w v r t g fo fd) H → va_S A s.heap H locs → lv_has ls 9 [(0, .ref b), (1, .ref h), (2, .ref (km 0)), (3, .ref ao), (4, .ref ad), (5, .int i)] → W p l e room_1 s m args below meth c H locs (cs + 1) (ss + 6) Q (F0 m 1402 ls []))
    (hP : va_P D vwCl (cLaw h aw av kr kt km ao ad q x w v r t g fo fd) H) (hS : va_S A s.heap H locs) (hl : lv_has ls 9 [(0, .ref b), (1, .ref h), (2, .ref (km 0)), (3, .ref ao), (4, .ref ad), (5, .int i)]) : W p l e room_1 s m args below meth c H locs cs ss Q (F0 m 739 ls []) := by
  have hx := fx.1
  have hb := fx.2.1
  have ht : f_law_10 N F x w v r t g fo fd p1 p2 = f_law_10 N F x w v r t g fo fd p1 p2 := rfl
  simp only [ok_law_10] at hok
  refine lv_aload_n hx hb dL_law_739 rfl (lv_at hl 1 rfl) ?_
  refine lv_aload_n hx hb dL_law_740 rfl (lv_at hl 0 rfl) ?_
  refine lv_iload hx hb dL_law_741 (lv_at hl 5 rfl) ?_
  refine lv_iconst (v := 1) hx hb dL_law_743 (by decide) ?_
  refine lv_iadd hx hb dL_law_744 ?_
  refine sld hx hb hX hbl hbA hS hv1 hp1 dL_law_745 ?_
  refine lv_aload_n hx hb dL_law_746 rfl (lv_at hl 0 rfl) ?_
  refine lv_iload hx hb dL_law_747 (lv_at hl 5 rfl) ?_
  refine lv_iconst (v := 2) hx hb dL_law_749 (by decide) ?_
  refine lv_iadd hx hb dL_law_750 ?_
  refine sld hx hb hX hbl hbA hS hv2 hp2 dL_law_751 ?_
  suffices K : ∀ (v2 : Int32), ∀ (H : Heap) (locs : List Loc) (ls : Array Slot), v2 = (if p2 = 0 then (0 : Int32) else (1 : Int32)) → va_P D vwCl (cLaw h aw av kr kt km ao ad q x w v r t g fo fd) H → va_S A s.heap H locs → lv_has ls 9 [(0, .ref b), (1, .ref h), (2, .ref (km 0)), (3, .ref ao), (4, .ref ad), (5, .int i)] → W p l e room_1 s m args below meth c H locs cs ss Q (F0 m 760 ls [.int v2, .int p1, .ref h]) by
    refine lv_if_eq (tgt := 759) hx hb dL_law_752 (by decide) (fun c1 => ?_) (fun c1 => ?_)
    · refine lv_iconst (v := 0) hx hb dL_law_759 (by decide) ?_
      exact K (0 : Int32) H locs ls (by simp only [if_pos c1]) hP hS (lv_sub hl [0, 1, 2, 3, 4, 5] rfl)
    · refine lv_iconst (v := 1) hx hb dL_law_755 (by decide) ?_
      refine lv_goto (tgt := 760) hx hb dL_law_756 (by decide) ?_
      exact K (1 : Int32) H locs ls (by simp only [if_neg c1]) hP hS (lv_sub hl [0, 1, 2, 3, 4, 5] rfl)
  intro v2 H locs ls hvv2 hP hS hl
  subst hvv2
  refine lv_aload_n hx hb dL_law_760 rfl (lv_at hl 3 rfl) ?_
  refine kW1_i (wrun fx hSX (SZ.kept hSZ0 hS.2.1) (As := [.ref h, .int p1, .int (if p2 = 0 then (0 : Int32) else (1 : Int32)), .ref ao]) (rest := []) (c_L_stop l D q H.size h aw av kr kt ao x w v r t fo p1 (if p2 = 0 then (0 : Int32) else (1 : Int32)) hstk) lk_L_128 ⟨Nat.le_of_ble_eq_true rfl, Nat.le_of_ble_eq_true rfl⟩ ⟨rfl, rfl⟩ hP (hD _ _ _ _ _ _ _ _) hS hA [0, 1, 2, 3, 4, 5, 6, 7, 8, 9, 10, 11, 12, 13, 25] rfl rfl rfl hl.1 rfl (Nat.le_of_ble_eq_true rfl) dL_law_761 hcs) hP (hD _ _ _ _ _ _ _ _) hS hA [0, 1, 2, 3, 4, 5, 6, 7, 8, 9, 10, 11, 12, 13, 25] rfl (fun _ => rfl) (fun r5 u3 H locs hw4 hP hS => ?_)
  have hP : va_P D vwCl (cLaw h aw av kr kt km ao ad q u3.1 w v r t g u3.2 fd) H := hP
  try simp only [hw4] at hok
  refine lv_istore (lv' := [(6, .int r5), (0, .ref b), (1, .ref h), (2, .ref (km 0)), (3, .ref ao), (4, .ref ad), (5, .int i)]) hx hb dL_law_764 hl (by decide) rfl (fun ls hl => ?_)
  refine lv_aload_n hx hb dL_law_766 rfl (lv_at hl 3 rfl) ?_
  refine lv_aload_n hx hb dL_law_767 rfl (lv_at hl 1 rfl) ?_
  refine lv_iload hx hb dL_law_768 (lv_at hl 6 rfl) ?_
  refine lv_iconst (v := 1) hx hb dL_law_770 (by decide) ?_
  refine lv_iadd hx hb dL_law_771 ?_
  refine sld hx hb hX hbl hbA hS hv1 hp1 dL_law_772 ?_
  refine lv_aload_n hx hb dL_law_773 rfl (lv_at hl 1 rfl) ?_
  refine lv_iload hx hb dL_law_774 (lv_at hl 6 rfl) ?_
  refine lv_iconst (v := 2) hx hb dL_law_776 (by decide) ?_
  refine lv_iadd hx hb dL_law_777 ?_
  refine sld hx hb hX hbl hbA hS hv2 hp2 dL_law_778 ?_
  suffices K : ∀ (v7 : Int32), ∀ (H : Heap) (locs : List Loc) (ls : Array Slot), v7 = (if p2 = 0 then (0 : Int32) else (1 : Int32)) → va_P D vwCl (cLaw h aw av kr kt km ao ad q u3.1 w v r t g u3.2 fd) H → va_S A s.heap H locs → lv_has ls 9 [(0, .ref b), (1, .ref h), (2, .ref (km 0)), (3, .ref ao), (4, .ref ad), (5, .int i), (6, .int r5)] → W p l e room_1 s m args below meth c H locs (cs + 1) (ss + 6) Q (F0 m 787 ls [.int v7, .int p1, .ref (km 0)]) by
    refine lv_if_eq (tgt := 786) hx hb dL_law_779 (by decide) (fun c6 => ?_) (fun c6 => ?_)
    · refine lv_iconst (v := 0) hx hb dL_law_786 (by decide) ?_
      exact K (0 : Int32) H locs ls (by simp only [if_pos c6, hw4]) hP hS (lv_sub hl [1, 2, 3, 4, 5, 6, 0] rfl)
    · refine lv_iconst (v := 1) hx hb dL_law_782 (by decide) ?_
      refine lv_goto (tgt := 787) hx hb dL_law_783 (by decide) ?_
      exact K (1 : Int32) H locs ls (by simp only [if_neg c6, hw4]) hP hS (lv_sub hl [1, 2, 3, 4, 5, 6, 0] rfl)
  intro v7 H locs ls hvv7 hP hS hl
  subst hvv7
  obtain ⟨hk8, hok⟩ := hok
  refine kW_i (runV fx (As := [.int p1, .int (if p2 = 0 then (0 : Int32) else (1 : Int32))]) (rest := []) (c_X4_stop l D q H.size km g p1 (if p2 = 0 then (0 : Int32) else (1 : Int32)) N hk8) lk_L_131 ⟨Nat.le_of_ble_eq_true rfl, Nat.le_of_ble_eq_true rfl⟩ ⟨rfl, rfl⟩ hP (hD _ _ _ _ _ _ _ _) [14, 15, 16, 17, 18, 19, 20, 21, 22, 23, 24] rfl rfl (ci := 4) rfl rfl rfl hl.1 rfl (Nat.le_of_ble_eq_true rfl) dL_law_787 ⟨by have := hcs.1; omega, by have := hcs.2; omega⟩) hP (hD _ _ _ _ _ _ _ _) hS hA [14, 15, 16, 17, 18, 19, 20, 21, 22, 23, 24] rfl (fun _ => rfl) (fun r11 u9 H locs hw10 hP hS => ?_)
  have hP : va_P D vwCl (cLaw h aw av kr kt km ao ad q u3.1 w v r t u9 u3.2 fd) H := hP
  try simp only [hw10] at hok
  refine lv_istore (lv' := [(7, .int r11), (0, .ref b), (1, .ref h), (2, .ref (km 0)), (3, .ref ao), (4, .ref ad), (5, .int i), (6, .int r5)]) hx hb dL_law_790 hl (by decide) rfl (fun ls hl => ?_)
  refine lv_aload_n hx hb dL_law_792 rfl (lv_at hl 3 rfl) ?_
  refine kR_i (runV fx (As := []) (rest := []) (c_X4_thrown l D q H.size km u9) lk_L_94 ⟨Nat.le_of_ble_eq_true rfl, Nat.le_of_ble_eq_true rfl⟩ ⟨rfl, rfl⟩ hP (hD _ _ _ _ _ _ _ _) [14, 15, 16, 17, 18, 19, 20, 21, 22, 23, 24] rfl rfl (ci := 4) rfl rfl rfl hl.1 rfl (Nat.le_of_ble_eq_true rfl) dL_law_793 ⟨by have := hcs.1; omega, by have := hcs.2; omega⟩) hP hS (fun r12 _ H locs hr13 hP hS => ?_)
  subst hr13
  refine lv_iload hx hb dL_law_796 (lv_at hl 7 rfl) ?_
  refine lv_icmp_eq (tgt := 803) hx hb dL_law_798 (by decide) (fun c14 => ?_) (fun c14 => ?_)
  · refine lv_iload hx hb dL_law_803 (lv_at hl 7 rfl) ?_
    have K820 : ∀ (H : Heap) (locs : List Loc) (ls : Array Slot), f_law_10 N F x w v r t g fo fd p1 p2 = f_L_law_b820 N x w v r t g fo fd F p1 p2 → va_P D vwCl (cLaw h aw av kr kt km ao ad q u3.1 w v r t u9 u3.2 fd) H → va_S A s.heap H locs → lv_has ls 9 [(0, .ref b), (1, .ref h), (2, .ref (km 0)), (3, .ref ao), (4, .ref ad), (5, .int i)] → W p l e room_1 s m args below meth c H locs (cs + 1) (ss + 6) Q (F0 m 820 ls []) := by
      intro H locs ls ht hP hS hl
      refine lv_goto (tgt := 1402) hx hb dL_law_820 (by decide) ?_
      exact hrec u3.1 w v r t u9 u3.2 fd H locs ls ((show f_law_10 N F x w v r t g fo fd p1 p2 = F u3.1 w v r t u9 u3.2 fd from ht.trans (by simp only [f_L_law_b820, hw4, hw10])).symm.trans hT) hP hS (lv_sub hl [0, 1, 2, 3, 4, 5] rfl)
    refine lv_if_ne (tgt := 820) hx hb dL_law_805 (by decide) (fun c17 => ?_) (fun c17 => ?_)
    · exact K820 H locs ls (ht.trans (by first | (simp only [f_law_10, if_pos c14, if_neg c17, hw4, hw10]; done) | (simp only [f_law_10, hw4, hw10]; simp only [if_pos c14, if_neg c17]))) hP hS (lv_sub hl [1, 2, 3, 4, 5, 6] rfl)
    · refine lv_aload_n hx hb dL_law_808 rfl (lv_at hl 4 rfl) ?_
      refine lv_iconst (v := 0) hx hb dL_law_809 (by decide) ?_
      refine va_lald hx hb fx.2.2.2.2.2.1 hP 25 2 (f := u3.2) rfl rfl (by unfold vp_in; decide) dL_law_810 ?_
      refine lv_iload hx hb dL_law_811 (lv_at hl 0 rfl) ?_
      refine lv_i2l (v := r11.toInt64) hx hb dL_law_813 rfl ?_
      refine W.lcmp hx hb dL_law_814 ?_
      refine lv_if_eq (tgt := 820) hx hb dL_law_815 (by decide) (fun c18 => ?_) (fun c18 => ?_)
      · exact K820 H locs ls (ht.trans (by first | (simp only [f_law_10, if_pos c14, if_pos c17, if_pos c18, hw4, hw10]; done) | (simp only [f_law_10, hw4, hw10]; simp only [if_pos c14, if_pos c17, if_pos c18]))) hP hS (lv_sub hl [1, 2, 3, 4, 5, 6] rfl)
      · refine lv_iconst (v := 0) hx hb dL_law_818 (by decide) ?_
        exact absurd ((show f_law_10 N F x w v r t g fo fd p1 p2 = (0 : Int32) from ht.trans (by first | (simp only [f_law_10, if_pos c14, if_pos c17, if_neg c18, hw4, hw10]; done) | (simp only [f_law_10, hw4, hw10]; simp only [if_pos c14, if_pos c17, if_neg c18]))).symm.trans hT) (by decide)
  · refine lv_iconst (v := 0) hx hb dL_law_801 (by decide) ?_
    exact absurd ((show f_law_10 N F x w v r t g fo fd p1 p2 = (0 : Int32) from ht.trans (by first | (simp only [f_law_10, if_neg c14, hw4, hw10]; done) | (simp only [f_law_10, hw4, hw10]; simp only [if_neg c14]))).symm.trans hT) (by decide)
