theorem mn_107 : Cond.methodLink RL 89 yL_low ∈ ALL := ALL_i (List.mem_append_right _ (List.mem_append_right _ (List.mem_append_left _ (List.mem_of_getElem? (i := 38) (by decide +kernel))))) (by decide +kernel)
theorem mn_108 : Cond.static yL_low ∈ ALL := ALL_i (List.mem_append_right _ (List.mem_append_right _ (List.mem_append_left _ (List.mem_of_getElem? (i := 39) (by decide +kernel))))) (by decide +kernel)
theorem mn_109 : Cond.initialized RL ∈ ALL := ALL_i (List.mem_append_right _ (List.mem_append_left _ (List.mem_of_getElem? (i := 0) (by decide +kernel)))) (by decide +kernel)
theorem mn_110 : Cond.code yL_low cL_low 2 (some .int) ∈ ALL := ALL_i (List.mem_append_right _ (List.mem_append_right _ (List.mem_append_left _ (List.mem_of_getElem? (i := 40) (by decide +kernel))))) (by decide +kernel)
theorem mn_111 : Cond.methodLink RL 94 yL_layer ∈ ALL := ALL_i (List.mem_append_right _ (List.mem_append_right _ (List.mem_append_left _ (List.mem_of_getElem? (i := 42) (by decide +kernel))))) (by decide +kernel)
theorem mn_112 : Cond.static yL_layer ∈ ALL := ALL_i (List.mem_append_right _ (List.mem_append_right _ (List.mem_append_left _ (List.mem_of_getElem? (i := 43) (by decide +kernel))))) (by decide +kernel)
theorem mn_113 : Cond.codeWith yL_layer cL_layer 7 (some .int) [(0, 12, 13, 14), (0, 12, 18, 17), (0, 12, 23, 19)] ∈ ALL := ALL_i (List.mem_append_right _ (List.mem_append_right _ (List.mem_append_left _ (List.mem_of_getElem? (i := 44) (by decide +kernel))))) (by decide +kernel)
theorem mn_114 : Cond.methodLink RL 97 yL_mud ∈ ALL := ALL_i (List.mem_append_right _ (List.mem_append_right _ (List.mem_append_left _ (List.mem_of_getElem? (i := 76) (by decide +kernel))))) (by decide +kernel)
theorem mn_115 : Cond.static yL_mud ∈ ALL := ALL_i (List.mem_append_right _ (List.mem_append_right _ (List.mem_append_left _ (List.mem_of_getElem? (i := 77) (by decide +kernel))))) (by decide +kernel)
theorem mn_116 : Cond.codeWith yL_mud cL_mud 3 (some .int) [(0, 5, 6, 17), (0, 5, 10, 19)] ∈ ALL := ALL_i (List.mem_append_right _ (List.mem_append_right _ (List.mem_append_left _ (List.mem_of_getElem? (i := 78) (by decide +kernel))))) (by decide +kernel)
theorem mn_117 : Cond.methodLink RL 100 yL_drill ∈ ALL := ALL_i (List.mem_append_right _ (List.mem_append_right _ (List.mem_append_left _ (List.mem_of_getElem? (i := 85) (by decide +kernel))))) (by decide +kernel)
theorem mn_118 : Cond.static yL_drill ∈ ALL := ALL_i (List.mem_append_right _ (List.mem_append_right _ (List.mem_append_left _ (List.mem_of_getElem? (i := 86) (by decide +kernel))))) (by decide +kernel)
theorem mn_119 : Cond.codeWith yL_drill cL_drill 3 (some .int) [(0, 5, 6, 17), (0, 5, 10, 19)] ∈ ALL := ALL_i (List.mem_append_right _ (List.mem_append_right _ (List.mem_append_left _ (List.mem_of_getElem? (i := 87) (by decide +kernel))))) (by decide +kernel)
theorem mn_120 : Cond.methodLink RL 102 yL_pass ∈ ALL := ALL_i (List.mem_append_right _ (List.mem_append_right _ (List.mem_append_left _ (List.mem_of_getElem? (i := 215) (by decide +kernel))))) (by decide +kernel)
theorem mn_121 : Cond.static yL_pass ∈ ALL := ALL_i (List.mem_append_right _ (List.mem_append_right _ (List.mem_append_left _ (List.mem_of_getElem? (i := 216) (by decide +kernel))))) (by decide +kernel)
theorem mn_122 : Cond.codeWith yL_pass cL_pass 3 (some .int) [(0, 5, 6, 17), (0, 5, 10, 19)] ∈ ALL := ALL_i (List.mem_append_right _ (List.mem_append_right _ (List.mem_append_left _ (List.mem_of_getElem? (i := 217) (by decide +kernel))))) (by decide +kernel)
theorem mn_123 : Cond.methodLink RL 104 yL_close ∈ ALL := ALL_i (List.mem_append_right _ (List.mem_append_right _ (List.mem_append_left _ (List.mem_of_getElem? (i := 229) (by decide +kernel))))) (by decide +kernel)
theorem mn_124 : Cond.static yL_close ∈ ALL := ALL_i (List.mem_append_right _ (List.mem_append_right _ (List.mem_append_left _ (List.mem_of_getElem? (i := 230) (by decide +kernel))))) (by decide +kernel)
theorem mn_125 : Cond.codeWith yL_close cL_close 2 (some .int) [(0, 5, 6, 19)] ∈ ALL := ALL_i (List.mem_append_right _ (List.mem_append_right _ (List.mem_append_left _ (List.mem_of_getElem? (i := 231) (by decide +kernel))))) (by decide +kernel)
theorem mn_126 : Cond.methodLink RL 107 yL_open ∈ ALL := ALL_i (List.mem_append_right _ (List.mem_append_right _ (List.mem_append_left _ (List.mem_of_getElem? (i := 236) (by decide +kernel))))) (by decide +kernel)
theorem mn_127 : Cond.static yL_open ∈ ALL := ALL_i (List.mem_append_right _ (List.mem_append_right _ (List.mem_append_left _ (List.mem_of_getElem? (i := 237) (by decide +kernel))))) (by decide +kernel)
theorem mn_128 : Cond.codeWith yL_open cL_open 2 (some .int) [(0, 4, 5, 19)] ∈ ALL := ALL_i (List.mem_append_right _ (List.mem_append_right _ (List.mem_append_left _ (List.mem_of_getElem? (i := 238) (by decide +kernel))))) (by decide +kernel)
theorem mn_129 : Cond.methodLink RL 109 yL_pump ∈ ALL := ALL_i (List.mem_append_right _ (List.mem_append_right _ (List.mem_append_right _ (List.mem_of_getElem? (i := 4) (by decide +kernel))))) (by decide +kernel)
theorem mn_130 : Cond.static yL_pump ∈ ALL := ALL_i (List.mem_append_right _ (List.mem_append_right _ (List.mem_append_right _ (List.mem_of_getElem? (i := 5) (by decide +kernel))))) (by decide +kernel)
theorem mn_131 : Cond.codeWith yL_pump cL_pump 4 (some .int) [(0, 6, 7, 17), (0, 6, 11, 19)] ∈ ALL := ALL_i (List.mem_append_right _ (List.mem_append_right _ (List.mem_append_right _ (List.mem_of_getElem? (i := 6) (by decide +kernel))))) (by decide +kernel)
theorem mn_132 : Cond.methodLink RL 112 yL_casing ∈ ALL := ALL_i (List.mem_append_right _ (List.mem_append_right _ (List.mem_append_right _ (List.mem_of_getElem? (i := 17) (by decide +kernel))))) (by decide +kernel)
theorem mn_133 : Cond.static yL_casing ∈ ALL := ALL_i (List.mem_append_right _ (List.mem_append_right _ (List.mem_append_right _ (List.mem_of_getElem? (i := 18) (by decide +kernel))))) (by decide +kernel)
theorem mn_134 : Cond.codeWith yL_casing cL_casing 3 (some .int) [(0, 5, 6, 17), (0, 5, 10, 19)] ∈ ALL := ALL_i (List.mem_append_right _ (List.mem_append_right _ (List.mem_append_right _ (List.mem_of_getElem? (i := 19) (by decide +kernel))))) (by decide +kernel)
theorem mn_135 : Cond.methodLink RL 116 yX3_bars ∈ ALL := ALL_i (List.mem_append_right _ (List.mem_append_right _ (List.mem_append_right _ (List.mem_of_getElem? (i := 34) (by decide +kernel))))) (by decide +kernel)
theorem mn_136 : Cond.methodLink RL 114 yL_strength ∈ ALL := ALL_i (List.mem_append_right _ (List.mem_append_right _ (List.mem_append_right _ (List.mem_of_getElem? (i := 26) (by decide +kernel))))) (by decide +kernel)
theorem mn_137 : Cond.static yL_strength ∈ ALL := ALL_i (List.mem_append_right _ (List.mem_append_right _ (List.mem_append_right _ (List.mem_of_getElem? (i := 27) (by decide +kernel))))) (by decide +kernel)
theorem mn_138 : Cond.codeWith yL_strength cL_strength 3 (some .int) [(0, 5, 6, 17)] ∈ ALL := ALL_i (List.mem_append_right _ (List.mem_append_right _ (List.mem_append_right _ (List.mem_of_getElem? (i := 28) (by decide +kernel))))) (by decide +kernel)
theorem mn_139 : Cond.methodLink RL 119 yL_test ∈ ALL := ALL_i (List.mem_append_right _ (List.mem_append_right _ (List.mem_append_right _ (List.mem_of_getElem? (i := 35) (by decide +kernel))))) (by decide +kernel)
theorem mn_140 : Cond.static yL_test ∈ ALL := ALL_i (List.mem_append_right _ (List.mem_append_right _ (List.mem_append_right _ (List.mem_of_getElem? (i := 36) (by decide +kernel))))) (by decide +kernel)
theorem mn_141 : Cond.codeWith yL_test cL_test 4 (some .int) [(0, 14, 15, 17), (0, 14, 19, 19)] ∈ ALL := ALL_i (List.mem_append_right _ (List.mem_append_right _ (List.mem_append_right _ (List.mem_of_getElem? (i := 37) (by decide +kernel))))) (by decide +kernel)
theorem mn_142 : Cond.methodLink RL 121 yL_stop ∈ ALL := ALL_i (List.mem_append_right _ (List.mem_append_right _ (List.mem_append_right _ (List.mem_of_getElem? (i := 38) (by decide +kernel))))) (by decide +kernel)
theorem mn_143 : Cond.static yL_stop ∈ ALL := ALL_i (List.mem_append_right _ (List.mem_append_right _ (List.mem_append_right _ (List.mem_of_getElem? (i := 39) (by decide +kernel))))) (by decide +kernel)
theorem mn_144 : Cond.codeWith yL_stop cL_stop 4 (some .int) [(0, 6, 7, 14)] ∈ ALL := ALL_i (List.mem_append_right _ (List.mem_append_right _ (List.mem_append_right _ (List.mem_of_getElem? (i := 40) (by decide +kernel))))) (by decide +kernel)
theorem mn_145 : Cond.methodLink RL 124 yL_pressure ∈ ALL := ALL_i (List.mem_append_right _ (List.mem_append_right _ (List.mem_append_right _ (List.mem_of_getElem? (i := 46) (by decide +kernel))))) (by decide +kernel)
theorem mn_146 : Cond.static yL_pressure ∈ ALL := ALL_i (List.mem_append_right _ (List.mem_append_right _ (List.mem_append_right _ (List.mem_of_getElem? (i := 47) (by decide +kernel))))) (by decide +kernel)
theorem mn_147 : Cond.codeWith yL_pressure cL_pressure 3 (some .int) [(0, 5, 6, 17)] ∈ ALL := ALL_i (List.mem_append_right _ (List.mem_append_right _ (List.mem_append_right _ (List.mem_of_getElem? (i := 48) (by decide +kernel))))) (by decide +kernel)
theorem mn_148 : Cond.methodLink RL 126 yL_of ∈ ALL := ALL_i (List.mem_append_right _ (List.mem_append_right _ (List.mem_append_right _ (List.mem_of_getElem? (i := 58) (by decide +kernel))))) (by decide +kernel)
theorem mn_149 : Cond.static yL_of ∈ ALL := ALL_i (List.mem_append_right _ (List.mem_append_right _ (List.mem_append_right _ (List.mem_of_getElem? (i := 59) (by decide +kernel))))) (by decide +kernel)
theorem mn_150 : Cond.codeWith yL_of cL_of 3 (some .long) [(0, 5, 6, 17)] ∈ ALL := ALL_i (List.mem_append_right _ (List.mem_append_right _ (List.mem_append_right _ (List.mem_of_getElem? (i := 60) (by decide +kernel))))) (by decide +kernel)
theorem mn_151 : Cond.constantLong RL 129 (1000000) ∈ ALL := ALL_i (List.mem_append_right _ (List.mem_append_right _ (List.mem_append_right _ (List.mem_of_getElem? (i := 67) (by decide +kernel))))) (by decide +kernel)
theorem mn_152 : Cond.methodLink RL 131 yX3_barriers ∈ ALL := ALL_i (List.mem_append_right _ (List.mem_append_right _ (List.mem_append_right _ (List.mem_of_getElem? (i := 68) (by decide +kernel))))) (by decide +kernel)
theorem mn_153 : Cond.methodLink RL 134 yL_ofTest ∈ ALL := ALL_i (List.mem_append_right _ (List.mem_append_right _ (List.mem_append_right _ (List.mem_of_getElem? (i := 69) (by decide +kernel))))) (by decide +kernel)
theorem mn_154 : Cond.static yL_ofTest ∈ ALL := ALL_i (List.mem_append_right _ (List.mem_append_right _ (List.mem_append_right _ (List.mem_of_getElem? (i := 70) (by decide +kernel))))) (by decide +kernel)
theorem mn_155 : Cond.codeWith yL_ofTest cL_ofTest 4 (some .int) [(0, 6, 7, 14), (0, 6, 11, 17)] ∈ ALL := ALL_i (List.mem_append_right _ (List.mem_append_right _ (List.mem_append_right _ (List.mem_of_getElem? (i := 71) (by decide +kernel))))) (by decide +kernel)
theorem mn_156 : Cond.methodLink RL 136 yL_killWeight ∈ ALL := ALL_i (List.mem_append_right _ (List.mem_append_right _ (List.mem_append_right _ (List.mem_of_getElem? (i := 77) (by decide +kernel))))) (by decide +kernel)
theorem mn_157 : Cond.static yL_killWeight ∈ ALL := ALL_i (List.mem_append_right _ (List.mem_append_right _ (List.mem_append_right _ (List.mem_of_getElem? (i := 78) (by decide +kernel))))) (by decide +kernel)
theorem mn_158 : Cond.codeWith yL_killWeight cL_killWeight 2 (some .int) [(0, 4, 5, 19)] ∈ ALL := ALL_i (List.mem_append_right _ (List.mem_append_right _ (List.mem_append_right _ (List.mem_of_getElem? (i := 79) (by decide +kernel))))) (by decide +kernel)
theorem mn_159 : Cond.methodLink RL 138 yL_window ∈ ALL := ALL_i (List.mem_append_right _ (List.mem_append_right _ (List.mem_append_right _ (List.mem_of_getElem? (i := 85) (by decide +kernel))))) (by decide +kernel)
theorem mn_160 : Cond.static yL_window ∈ ALL := ALL_i (List.mem_append_right _ (List.mem_append_right _ (List.mem_append_right _ (List.mem_of_getElem? (i := 86) (by decide +kernel))))) (by decide +kernel)
theorem mn_161 : Cond.codeWith yL_window cL_window 5 (some .int) [(0, 7, 8, 17)] ∈ ALL := ALL_i (List.mem_append_right _ (List.mem_append_right _ (List.mem_append_right _ (List.mem_of_getElem? (i := 87) (by decide +kernel))))) (by decide +kernel)
theorem mn_162 : Cond.methodLink RL 141 yL_casings ∈ ALL := ALL_i (List.mem_append_right _ (List.mem_append_right _ (List.mem_append_right _ (List.mem_of_getElem? (i := 104) (by decide +kernel))))) (by decide +kernel)
theorem mn_163 : Cond.static yL_casings ∈ ALL := ALL_i (List.mem_append_right _ (List.mem_append_right _ (List.mem_append_right _ (List.mem_of_getElem? (i := 105) (by decide +kernel))))) (by decide +kernel)
theorem mn_164 : Cond.codeWith yL_casings cL_casings 3 (some .int) [(0, 5, 6, 17)] ∈ ALL := ALL_i (List.mem_append_right _ (List.mem_append_right _ (List.mem_append_right _ (List.mem_of_getElem? (i := 106) (by decide +kernel))))) (by decide +kernel)
theorem mn_165 : Cond.methodLink RL 143 yL_casingsAnew ∈ ALL := ALL_i (List.mem_append_right _ (List.mem_append_right _ (List.mem_append_right _ (List.mem_of_getElem? (i := 116) (by decide +kernel))))) (by decide +kernel)
theorem mn_166 : Cond.static yL_casingsAnew ∈ ALL := ALL_i (List.mem_append_right _ (List.mem_append_right _ (List.mem_append_right _ (List.mem_of_getElem? (i := 117) (by decide +kernel))))) (by decide +kernel)
theorem mn_167 : Cond.codeWith yL_casingsAnew cL_casingsAnew 3 (some .int) [(0, 5, 6, 17)] ∈ ALL := ALL_i (List.mem_append_right _ (List.mem_append_right _ (List.mem_append_right _ (List.mem_of_getElem? (i := 118) (by decide +kernel))))) (by decide +kernel)
theorem mn_168 : Cond.methodLink RL 145 yL_equivalent ∈ ALL := ALL_i (List.mem_append_right _ (List.mem_append_right _ (List.mem_append_right _ (List.mem_of_getElem? (i := 131) (by decide +kernel))))) (by decide +kernel)
theorem mn_169 : Cond.static yL_equivalent ∈ ALL := ALL_i (List.mem_append_right _ (List.mem_append_right _ (List.mem_append_right _ (List.mem_of_getElem? (i := 132) (by decide +kernel))))) (by decide +kernel)
theorem mn_170 : Cond.codeWith yL_equivalent cL_equivalent 2 (some .int) [(0, 8, 9, 19)] ∈ ALL := ALL_i (List.mem_append_right _ (List.mem_append_right _ (List.mem_append_right _ (List.mem_of_getElem? (i := 133) (by decide +kernel))))) (by decide +kernel)
theorem mn_171 : Cond.methodLink RL 147 yL_ahead ∈ ALL := ALL_i (List.mem_append_right _ (List.mem_append_right _ (List.mem_append_right _ (List.mem_of_getElem? (i := 140) (by decide +kernel))))) (by decide +kernel)
theorem mn_172 : Cond.static yL_ahead ∈ ALL := ALL_i (List.mem_append_right _ (List.mem_append_right _ (List.mem_append_right _ (List.mem_of_getElem? (i := 141) (by decide +kernel))))) (by decide +kernel)
theorem mn_173 : Cond.codeWith yL_ahead cL_ahead 3 (some .int) [(0, 5, 6, 17)] ∈ ALL := ALL_i (List.mem_append_right _ (List.mem_append_right _ (List.mem_append_right _ (List.mem_of_getElem? (i := 142) (by decide +kernel))))) (by decide +kernel)
theorem lk_L_89 : LKS RL 89 yL_low cL_low 2 (some .int) 2 := ⟨mn_107, mn_108, ⟨mn_109, mn_110, by decide +kernel, by decide +kernel, by decide +kernel⟩⟩
theorem lk_L_94 : LKW RL 94 yL_layer cL_layer 7 (some .int) [(0, 12, 13, 14), (0, 12, 18, 17), (0, 12, 23, 19)] 6 := ⟨mn_111, mn_112, mn_109, mn_113, by decide +kernel, by decide +kernel, by decide +kernel⟩
theorem lk_L_97 : LKW RL 97 yL_mud cL_mud 3 (some .int) [(0, 5, 6, 17), (0, 5, 10, 19)] 2 := ⟨mn_114, mn_115, mn_109, mn_116, by decide +kernel, by decide +kernel, by decide +kernel⟩
theorem lk_L_100 : LKW RL 100 yL_drill cL_drill 3 (some .int) [(0, 5, 6, 17), (0, 5, 10, 19)] 2 := ⟨mn_117, mn_118, mn_109, mn_119, by decide +kernel, by decide +kernel, by decide +kernel⟩
theorem lk_L_102 : LKW RL 102 yL_pass cL_pass 3 (some .int) [(0, 5, 6, 17), (0, 5, 10, 19)] 2 := ⟨mn_120, mn_121, mn_109, mn_122, by decide +kernel, by decide +kernel, by decide +kernel⟩
theorem lk_L_104 : LKW RL 104 yL_close cL_close 2 (some .int) [(0, 5, 6, 19)] 1 := ⟨mn_123, mn_124, mn_109, mn_125, by decide +kernel, by decide +kernel, by decide +kernel⟩
theorem lk_L_107 : LKW RL 107 yL_open cL_open 2 (some .int) [(0, 4, 5, 19)] 1 := ⟨mn_126, mn_127, mn_109, mn_128, by decide +kernel, by decide +kernel, by decide +kernel⟩
theorem lk_L_109 : LKW RL 109 yL_pump cL_pump 4 (some .int) [(0, 6, 7, 17), (0, 6, 11, 19)] 3 := ⟨mn_129, mn_130, mn_109, mn_131, by decide +kernel, by decide +kernel, by decide +kernel⟩
theorem lk_L_112 : LKW RL 112 yL_casing cL_casing 3 (some .int) [(0, 5, 6, 17), (0, 5, 10, 19)] 2 := ⟨mn_132, mn_133, mn_109, mn_134, by decide +kernel, by decide +kernel, by decide +kernel⟩
theorem lk_L_116 : LKV RL 116 RX3 yX3_bars cX3_bars 1 (some .int) 0 := ⟨mn_135, mm_150, mm_151, ⟨mm_6, mm_152, by decide +kernel, by decide +kernel, by decide +kernel⟩⟩
theorem lk_L_114 : LKW RL 114 yL_strength cL_strength 3 (some .int) [(0, 5, 6, 17)] 2 := ⟨mn_136, mn_137, mn_109, mn_138, by decide +kernel, by decide +kernel, by decide +kernel⟩
theorem lk_L_119 : LKW RL 119 yL_test cL_test 4 (some .int) [(0, 14, 15, 17), (0, 14, 19, 19)] 3 := ⟨mn_139, mn_140, mn_109, mn_141, by decide +kernel, by decide +kernel, by decide +kernel⟩
theorem lk_L_121 : LKW RL 121 yL_stop cL_stop 4 (some .int) [(0, 6, 7, 14)] 3 := ⟨mn_142, mn_143, mn_109, mn_144, by decide +kernel, by decide +kernel, by decide +kernel⟩
theorem lk_L_124 : LKW RL 124 yL_pressure cL_pressure 3 (some .int) [(0, 5, 6, 17)] 2 := ⟨mn_145, mn_146, mn_109, mn_147, by decide +kernel, by decide +kernel, by decide +kernel⟩
theorem lk_L_126 : LKW RL 126 yL_of cL_of 3 (some .long) [(0, 5, 6, 17)] 2 := ⟨mn_148, mn_149, mn_109, mn_150, by decide +kernel, by decide +kernel, by decide +kernel⟩
theorem lk_L_131 : LKV RL 131 RX3 yX3_barriers cX3_barriers 1 (some .int) 0 := ⟨mn_152, mm_135, mm_136, ⟨mm_6, mm_137, by decide +kernel, by decide +kernel, by decide +kernel⟩⟩
theorem lk_L_134 : LKW RL 134 yL_ofTest cL_ofTest 4 (some .int) [(0, 6, 7, 14), (0, 6, 11, 17)] 3 := ⟨mn_153, mn_154, mn_109, mn_155, by decide +kernel, by decide +kernel, by decide +kernel⟩
theorem lk_L_136 : LKW RL 136 yL_killWeight cL_killWeight 2 (some .int) [(0, 4, 5, 19)] 1 := ⟨mn_156, mn_157, mn_109, mn_158, by decide +kernel, by decide +kernel, by decide +kernel⟩
theorem lk_L_138 : LKW RL 138 yL_window cL_window 5 (some .int) [(0, 7, 8, 17)] 4 := ⟨mn_159, mn_160, mn_109, mn_161, by decide +kernel, by decide +kernel, by decide +kernel⟩
theorem lk_L_141 : LKW RL 141 yL_casings cL_casings 3 (some .int) [(0, 5, 6, 17)] 2 := ⟨mn_162, mn_163, mn_109, mn_164, by decide +kernel, by decide +kernel, by decide +kernel⟩
theorem lk_L_143 : LKW RL 143 yL_casingsAnew cL_casingsAnew 3 (some .int) [(0, 5, 6, 17)] 2 := ⟨mn_165, mn_166, mn_109, mn_167, by decide +kernel, by decide +kernel, by decide +kernel⟩
theorem lk_L_145 : LKW RL 145 yL_equivalent cL_equivalent 2 (some .int) [(0, 8, 9, 19)] 1 := ⟨mn_168, mn_169, mn_109, mn_170, by decide +kernel, by decide +kernel, by decide +kernel⟩
theorem lk_L_147 : LKW RL 147 yL_ahead cL_ahead 3 (some .int) [(0, 5, 6, 17)] 2 := ⟨mn_171, mn_172, mn_109, mn_173, by decide +kernel, by decide +kernel, by decide +kernel⟩
abbrev RM_L_act : Room := { frames := 20, cells := 1, slots := 6, locals := 300 }
def f_act_292 (N : Nat) (x : XS) (w : WS) (v : WS) (r : RS) (t : TS) (p0 : Int32) (p1 : Int32) (p2 : Int32) (p3 : Int32) (p4 : Int32) : Nat × Int32 × XS × WS × WS × RS × TS :=
  ((0 + (f_L_layer w r (if p1 = 0 then f_L_low (p0 >>> ((4 : Int32) &&& 31)) (14 : Int32) else (f_L_low (p0 >>> ((4 : Int32) &&& 31)) (54 : Int32)) - (2 : Int32)) (if p1 = 0 then (90 : Int32) + (f_L_low (p0 >>> ((5 : Int32) &&& 31)) (60 : Int32)) else p2) (if p1 = 0 then (120 : Int32) + ((2 : Int32) * p2) else p2) (if p1 = 0 then f_L_low (p0 >>> ((7 : Int32) &&& 31)) (60 : Int32) else p0 >>> ((7 : Int32) &&& 31)) p4).1), (f_L_layer w r (if p1 = 0 then f_L_low (p0 >>> ((4 : Int32) &&& 31)) (14 : Int32) else (f_L_low (p0 >>> ((4 : Int32) &&& 31)) (54 : Int32)) - (2 : Int32)) (if p1 = 0 then (90 : Int32) + (f_L_low (p0 >>> ((5 : Int32) &&& 31)) (60 : Int32)) else p2) (if p1 = 0 then (120 : Int32) + ((2 : Int32) * p2) else p2) (if p1 = 0 then f_L_low (p0 >>> ((7 : Int32) &&& 31)) (60 : Int32) else p0 >>> ((7 : Int32) &&& 31)) p4).2.1, x, w, v, ((f_L_layer w r (if p1 = 0 then f_L_low (p0 >>> ((4 : Int32) &&& 31)) (14 : Int32) else (f_L_low (p0 >>> ((4 : Int32) &&& 31)) (54 : Int32)) - (2 : Int32)) (if p1 = 0 then (90 : Int32) + (f_L_low (p0 >>> ((5 : Int32) &&& 31)) (60 : Int32)) else p2) (if p1 = 0 then (120 : Int32) + ((2 : Int32) * p2) else p2) (if p1 = 0 then f_L_low (p0 >>> ((7 : Int32) &&& 31)) (60 : Int32) else p0 >>> ((7 : Int32) &&& 31)) p4).2.2), t)

def ok_act_292 (N : Nat) (x : XS) (w : WS) (v : WS) (r : RS) (t : TS) (p0 : Int32) (p1 : Int32) (p2 : Int32) (p3 : Int32) (p4 : Int32) : Prop :=
  ((p1 = 0 → ((ok_L_low (p0 >>> ((4 : Int32) &&& 31)) (14 : Int32)) ∧ True)) ∧ (¬ p1 = 0 → ((ok_L_low (p0 >>> ((4 : Int32) &&& 31)) (54 : Int32)) ∧ True))) ∧ (((p1 = 0 → ((ok_L_low (p0 >>> ((5 : Int32) &&& 31)) (60 : Int32)) ∧ True)) ∧ (¬ p1 = 0 → True)) ∧ (((p1 = 0 → ((ok_L_low (p0 >>> ((7 : Int32) &&& 31)) (60 : Int32)) ∧ True)) ∧ (¬ p1 = 0 → True)) ∧ True))

set_option maxRecDepth 100000 in
set_option maxHeartbeats 8000000 in
theorem c_act_292 {p : Program} {l : Launch} {e : Env} {s : State} {m : MethodId} {args : Array Value} {below : List Frame} {meth : Method} {c : Code} {H : Heap} {locs : List Loc} {Q : State → Prop} {D : va_G} {q : Nat → ClassId} {A : Nat → Prop} {ls : Array Slot} (h aw av : Nat) (kr kt : Nat → Nat) (x : XS) (w : WS) (v : WS) (r : RS) (t : TS) (p0 p1 p2 p3 p4 : Int32) (N : Nat) (hstk : l.stackTraces = false) (fx : FX p s m args c RL cL_act 6 D q) (hSX : SX s) (hSZ0 : SZ A s s.heap) (hA : ∀ a, s.heap.size ≤ a → A a) (hD : ∀ (x : XS) (w : WS) (v : WS) (r : RS) (t : TS), va_D A (cKick h aw av kr kt q x w v r t)) (hok : ok_act_292 N x w v r t p0 p1 p2 p3 p4)
    (hret : ∀ (rv : Int32) (u : Nat × XS × WS × WS × RS × TS) (pc : Nat) (H : Heap) (locs : List Loc) (ls : Array Slot), decode cL_act pc = .ok (.ireturn, 1) → f_act_292 N x w v r t p0 p1 p2 p3 p4 = (u.1, rv, u.2) → va_P D vwCl (cKick h aw av kr kt q u.2.1 u.2.2.1 u.2.2.2.1 u.2.2.2.2.1 u.2.2.2.2.2) H → va_S A s.heap H locs → s.heap.size + u.1 ≤ H.size → W p l e RM_L_act s m args below meth c H locs 1 6 Q (F0 m pc ls [.int rv]))
    (hP : va_P D vwCl (cKick h aw av kr kt q x w v r t) H) (hS : va_S A s.heap H locs) (hg : s.heap.size + 0 ≤ H.size) (hl : lv_has ls 6 [(0, .ref h), (1, .int p0), (2, .int p1), (3, .int p2), (4, .int p3), (5, .int p4)]) : W p l e RM_L_act s m args below meth c H locs 0 0 Q (F0 m 292 ls []) := by
  have hx := fx.1
  have hb := fx.2.1
  have ht : f_act_292 N x w v r t p0 p1 p2 p3 p4 = f_act_292 N x w v r t p0 p1 p2 p3 p4 := rfl
  simp only [ok_act_292] at hok
  refine lv_aload_n hx hb dL_act_292 rfl (lv_at hl 0 rfl) ?_
  refine lv_iload_n hx hb dL_act_293 rfl (lv_at hl 2 rfl) ?_
  obtain ⟨hokA, hok⟩ := hok
  suffices K : ∀ (v8 : Int32), ∀ (H : Heap) (locs : List Loc) (ls : Array Slot), v8 = (if p1 = 0 then f_L_low (p0 >>> ((4 : Int32) &&& 31)) (14 : Int32) else (f_L_low (p0 >>> ((4 : Int32) &&& 31)) (54 : Int32)) - (2 : Int32)) → va_P D vwCl (cKick h aw av kr kt q x w v r t) H → va_S A s.heap H locs → s.heap.size + 0 ≤ H.size → lv_has ls 6 [(0, .ref h), (1, .int p0), (2, .int p1), (3, .int p2), (5, .int p4)] → W p l e RM_L_act s m args below meth c H locs 0 0 Q (F0 m 318 ls [.int v8, .ref h]) by
    have hok := hokA
    refine lv_if_eq (tgt := 310) hx hb dL_act_294 (by decide) (fun c1 => ?_) (fun c1 => ?_)
    · have hok := hok.1 c1
      refine lv_iload_n hx hb dL_act_310 rfl (lv_at hl 1 rfl) ?_
      refine lv_iconst (v := 4) hx hb dL_act_311 (by decide) ?_
      refine lv_ishr hx hb dL_act_312 ?_
      refine lv_bipush (v := 14) hx hb dL_act_313 (by decide) ?_
      obtain ⟨hk2, hok⟩ := hok
      refine kRg_i (runS fx (As := [.int (p0 >>> ((4 : Int32) &&& 31)), .int (14 : Int32)]) (rest := [.ref h]) (c_L_low l D q H.size (p0 >>> ((4 : Int32) &&& 31)) (14 : Int32) hk2) lk_L_89 ⟨Nat.le_of_ble_eq_true rfl, Nat.le_of_ble_eq_true rfl⟩ ⟨rfl, rfl⟩ hP (hD _ _ _ _ _) [] rfl rfl rfl hl.1 rfl (Nat.le_of_ble_eq_true rfl) dL_act_315 ⟨Nat.zero_le _, Nat.zero_le _⟩) hP hS hg (fun r3 _ H locs hr4 hP hS hg => ?_)
      subst hr4
      exact K (f_L_low (p0 >>> ((4 : Int32) &&& 31)) (14 : Int32)) H locs ls (by simp only [if_pos c1]) hP hS hg (lv_sub hl [0, 1, 2, 3, 5] rfl)
    · have hok := hok.2 c1
      refine lv_iload_n hx hb dL_act_297 rfl (lv_at hl 1 rfl) ?_
      refine lv_iconst (v := 4) hx hb dL_act_298 (by decide) ?_
      refine lv_ishr hx hb dL_act_299 ?_
      refine lv_bipush (v := 54) hx hb dL_act_300 (by decide) ?_
      obtain ⟨hk5, hok⟩ := hok
      refine kRg_i (runS fx (As := [.int (p0 >>> ((4 : Int32) &&& 31)), .int (54 : Int32)]) (rest := [.ref h]) (c_L_low l D q H.size (p0 >>> ((4 : Int32) &&& 31)) (54 : Int32) hk5) lk_L_89 ⟨Nat.le_of_ble_eq_true rfl, Nat.le_of_ble_eq_true rfl⟩ ⟨rfl, rfl⟩ hP (hD _ _ _ _ _) [] rfl rfl rfl hl.1 rfl (Nat.le_of_ble_eq_true rfl) dL_act_302 ⟨Nat.zero_le _, Nat.zero_le _⟩) hP hS hg (fun r6 _ H locs hr7 hP hS hg => ?_)
      subst hr7
      refine lv_iconst (v := 2) hx hb dL_act_305 (by decide) ?_
      refine lv_isub hx hb dL_act_306 ?_
      refine lv_goto (tgt := 318) hx hb dL_act_307 (by decide) ?_
      exact K ((f_L_low (p0 >>> ((4 : Int32) &&& 31)) (54 : Int32)) - (2 : Int32)) H locs ls (by simp only [if_neg c1]) hP hS hg (lv_sub hl [0, 1, 2, 3, 5] rfl)
  intro v8 H locs ls hvv8 hP hS hg hl
  subst hvv8
  refine lv_iload_n hx hb dL_act_318 rfl (lv_at hl 2 rfl) ?_
  obtain ⟨hokA, hok⟩ := hok
  suffices K : ∀ (v13 : Int32), ∀ (H : Heap) (locs : List Loc) (ls : Array Slot), v13 = (if p1 = 0 then (90 : Int32) + (f_L_low (p0 >>> ((5 : Int32) &&& 31)) (60 : Int32)) else p2) → va_P D vwCl (cKick h aw av kr kt q x w v r t) H → va_S A s.heap H locs → s.heap.size + 0 ≤ H.size → lv_has ls 6 [(0, .ref h), (1, .int p0), (2, .int p1), (3, .int p2), (5, .int p4)] → W p l e RM_L_act s m args below meth c H locs 0 0 Q (F0 m 337 ls [.int v13, .int (if p1 = 0 then f_L_low (p0 >>> ((4 : Int32) &&& 31)) (14 : Int32) else (f_L_low (p0 >>> ((4 : Int32) &&& 31)) (54 : Int32)) - (2 : Int32)), .ref h]) by
    have hok := hokA
    refine lv_if_eq (tgt := 326) hx hb dL_act_319 (by decide) (fun c9 => ?_) (fun c9 => ?_)
    · have hok := hok.1 c9
      refine lv_bipush (v := 90) hx hb dL_act_326 (by decide) ?_
      refine lv_iload_n hx hb dL_act_328 rfl (lv_at hl 1 rfl) ?_
      refine lv_iconst (v := 5) hx hb dL_act_329 (by decide) ?_
      refine lv_ishr hx hb dL_act_330 ?_
      refine lv_bipush (v := 60) hx hb dL_act_331 (by decide) ?_
      obtain ⟨hk10, hok⟩ := hok
      refine kRg_i (runS fx (As := [.int (p0 >>> ((5 : Int32) &&& 31)), .int (60 : Int32)]) (rest := [.int (90 : Int32), .int (if p1 = 0 then f_L_low (p0 >>> ((4 : Int32) &&& 31)) (14 : Int32) else (f_L_low (p0 >>> ((4 : Int32) &&& 31)) (54 : Int32)) - (2 : Int32)), .ref h]) (c_L_low l D q H.size (p0 >>> ((5 : Int32) &&& 31)) (60 : Int32) hk10) lk_L_89 ⟨Nat.le_of_ble_eq_true rfl, Nat.le_of_ble_eq_true rfl⟩ ⟨rfl, rfl⟩ hP (hD _ _ _ _ _) [] rfl rfl rfl hl.1 rfl (Nat.le_of_ble_eq_true rfl) dL_act_333 ⟨Nat.zero_le _, Nat.zero_le _⟩) hP hS hg (fun r11 _ H locs hr12 hP hS hg => ?_)
      subst hr12
      refine lv_iadd hx hb dL_act_336 ?_
      exact K ((90 : Int32) + (f_L_low (p0 >>> ((5 : Int32) &&& 31)) (60 : Int32))) H locs ls (by simp only [if_pos c9]) hP hS hg (lv_sub hl [0, 1, 2, 3, 4] rfl)
    · have hok := hok.2 c9
      refine lv_iload_n hx hb dL_act_322 rfl (lv_at hl 3 rfl) ?_
      refine lv_goto (tgt := 337) hx hb dL_act_323 (by decide) ?_
      exact K p2 H locs ls (by simp only [if_neg c9]) hP hS hg (lv_sub hl [0, 1, 2, 3, 4] rfl)
  intro v13 H locs ls hvv13 hP hS hg hl
  subst hvv13
  refine lv_iload_n hx hb dL_act_337 rfl (lv_at hl 2 rfl) ?_
  suffices K : ∀ (v15 : Int32), ∀ (H : Heap) (locs : List Loc) (ls : Array Slot), v15 = (if p1 = 0 then (120 : Int32) + ((2 : Int32) * p2) else p2) → va_P D vwCl (cKick h aw av kr kt q x w v r t) H → va_S A s.heap H locs → s.heap.size + 0 ≤ H.size → lv_has ls 6 [(0, .ref h), (1, .int p0), (2, .int p1), (5, .int p4)] → W p l e RM_L_act s m args below meth c H locs 0 0 Q (F0 m 351 ls [.int v15, .int (if p1 = 0 then (90 : Int32) + (f_L_low (p0 >>> ((5 : Int32) &&& 31)) (60 : Int32)) else p2), .int (if p1 = 0 then f_L_low (p0 >>> ((4 : Int32) &&& 31)) (14 : Int32) else (f_L_low (p0 >>> ((4 : Int32) &&& 31)) (54 : Int32)) - (2 : Int32)), .ref h]) by
    refine lv_if_eq (tgt := 345) hx hb dL_act_338 (by decide) (fun c14 => ?_) (fun c14 => ?_)
    · refine lv_bipush (v := 120) hx hb dL_act_345 (by decide) ?_
      refine lv_iconst (v := 2) hx hb dL_act_347 (by decide) ?_
      refine lv_iload_n hx hb dL_act_348 rfl (lv_at hl 3 rfl) ?_
      refine lv_imul hx hb dL_act_349 ?_
      refine lv_iadd hx hb dL_act_350 ?_
      exact K ((120 : Int32) + ((2 : Int32) * p2)) H locs ls (by simp only [if_pos c14]) hP hS hg (lv_sub hl [0, 1, 2, 4] rfl)
    · refine lv_iload_n hx hb dL_act_341 rfl (lv_at hl 3 rfl) ?_
      refine lv_goto (tgt := 351) hx hb dL_act_342 (by decide) ?_
      exact K p2 H locs ls (by simp only [if_neg c14]) hP hS hg (lv_sub hl [0, 1, 2, 4] rfl)
  intro v15 H locs ls hvv15 hP hS hg hl
  subst hvv15
  refine lv_iload_n hx hb dL_act_351 rfl (lv_at hl 2 rfl) ?_
  obtain ⟨hokA, hok⟩ := hok
  suffices K : ∀ (v20 : Int32), ∀ (H : Heap) (locs : List Loc) (ls : Array Slot), v20 = (if p1 = 0 then f_L_low (p0 >>> ((7 : Int32) &&& 31)) (60 : Int32) else p0 >>> ((7 : Int32) &&& 31)) → va_P D vwCl (cKick h aw av kr kt q x w v r t) H → va_S A s.heap H locs → s.heap.size + 0 ≤ H.size → lv_has ls 6 [(0, .ref h), (5, .int p4)] → W p l e RM_L_act s m args below meth c H locs 0 0 Q (F0 m 371 ls [.int v20, .int (if p1 = 0 then (120 : Int32) + ((2 : Int32) * p2) else p2), .int (if p1 = 0 then (90 : Int32) + (f_L_low (p0 >>> ((5 : Int32) &&& 31)) (60 : Int32)) else p2), .int (if p1 = 0 then f_L_low (p0 >>> ((4 : Int32) &&& 31)) (14 : Int32) else (f_L_low (p0 >>> ((4 : Int32) &&& 31)) (54 : Int32)) - (2 : Int32)), .ref h]) by
    have hok := hokA
    refine lv_if_eq (tgt := 362) hx hb dL_act_352 (by decide) (fun c16 => ?_) (fun c16 => ?_)
    · have hok := hok.1 c16
      refine lv_iload_n hx hb dL_act_362 rfl (lv_at hl 1 rfl) ?_
      refine lv_bipush (v := 7) hx hb dL_act_363 (by decide) ?_
      refine lv_ishr hx hb dL_act_365 ?_
      refine lv_bipush (v := 60) hx hb dL_act_366 (by decide) ?_
      obtain ⟨hk17, hok⟩ := hok
      refine kRg_i (runS fx (As := [.int (p0 >>> ((7 : Int32) &&& 31)), .int (60 : Int32)]) (rest := [.int (if p1 = 0 then (120 : Int32) + ((2 : Int32) * p2) else p2), .int (if p1 = 0 then (90 : Int32) + (f_L_low (p0 >>> ((5 : Int32) &&& 31)) (60 : Int32)) else p2), .int (if p1 = 0 then f_L_low (p0 >>> ((4 : Int32) &&& 31)) (14 : Int32) else (f_L_low (p0 >>> ((4 : Int32) &&& 31)) (54 : Int32)) - (2 : Int32)), .ref h]) (c_L_low l D q H.size (p0 >>> ((7 : Int32) &&& 31)) (60 : Int32) hk17) lk_L_89 ⟨Nat.le_of_ble_eq_true rfl, Nat.le_of_ble_eq_true rfl⟩ ⟨rfl, rfl⟩ hP (hD _ _ _ _ _) [] rfl rfl rfl hl.1 rfl (Nat.le_of_ble_eq_true rfl) dL_act_368 ⟨Nat.zero_le _, Nat.zero_le _⟩) hP hS hg (fun r18 _ H locs hr19 hP hS hg => ?_)
      subst hr19
      exact K (f_L_low (p0 >>> ((7 : Int32) &&& 31)) (60 : Int32)) H locs ls (by simp only [if_pos c16]) hP hS hg (lv_sub hl [0, 3] rfl)
    · have hok := hok.2 c16
      refine lv_iload_n hx hb dL_act_355 rfl (lv_at hl 1 rfl) ?_
      refine lv_bipush (v := 7) hx hb dL_act_356 (by decide) ?_
      refine lv_ishr hx hb dL_act_358 ?_
      refine lv_goto (tgt := 371) hx hb dL_act_359 (by decide) ?_
      exact K (p0 >>> ((7 : Int32) &&& 31)) H locs ls (by simp only [if_neg c16]) hP hS hg (lv_sub hl [0, 3] rfl)
  intro v20 H locs ls hvv20 hP hS hg hl
  subst hvv20
  refine lv_iload hx hb dL_act_371 (lv_at hl 1 rfl) ?_
  refine kWg_i (C := fun (u9 : RS) => cKick h aw av kr kt q x w v u9 t) (wrun fx hSX (SZ.kept hSZ0 hS.2.1) (As := [.ref h, .int (if p1 = 0 then f_L_low (p0 >>> ((4 : Int32) &&& 31)) (14 : Int32) else (f_L_low (p0 >>> ((4 : Int32) &&& 31)) (54 : Int32)) - (2 : Int32)), .int (if p1 = 0 then (90 : Int32) + (f_L_low (p0 >>> ((5 : Int32) &&& 31)) (60 : Int32)) else p2), .int (if p1 = 0 then (120 : Int32) + ((2 : Int32) * p2) else p2), .int (if p1 = 0 then f_L_low (p0 >>> ((7 : Int32) &&& 31)) (60 : Int32) else p0 >>> ((7 : Int32) &&& 31)), .int p4]) (rest := []) (c_L_layer l D q H.size h aw av kr kt x w v r t (if p1 = 0 then f_L_low (p0 >>> ((4 : Int32) &&& 31)) (14 : Int32) else (f_L_low (p0 >>> ((4 : Int32) &&& 31)) (54 : Int32)) - (2 : Int32)) (if p1 = 0 then (90 : Int32) + (f_L_low (p0 >>> ((5 : Int32) &&& 31)) (60 : Int32)) else p2) (if p1 = 0 then (120 : Int32) + ((2 : Int32) * p2) else p2) (if p1 = 0 then f_L_low (p0 >>> ((7 : Int32) &&& 31)) (60 : Int32) else p0 >>> ((7 : Int32) &&& 31)) p4 hstk) lk_L_94 ⟨Nat.le_of_ble_eq_true rfl, Nat.le_of_ble_eq_true rfl⟩ ⟨rfl, rfl⟩ hP (hD _ _ _ _ _) hS hA [0, 1, 2, 3, 4, 5, 6, 7, 8, 9, 10, 11, 12, 13] rfl rfl rfl hl.1 rfl (Nat.le_of_ble_eq_true rfl) dL_act_373 ⟨Nat.le_of_ble_eq_true rfl, Nat.le_of_ble_eq_true rfl⟩) hP (hD _ _ _ _ _) hS hA hg [0, 1, 2, 3, 4, 5, 6, 7, 8, 9, 10, 11, 12, 13] rfl (fun _ => rfl) (fun r23 n24 u21 H locs hw22 hP hS hg => ?_)
  have hP : va_P D vwCl (cKick h aw av kr kt q x w v u21 t) H := hP
  have hw22 : (f_L_layer w r (if p1 = 0 then f_L_low (p0 >>> ((4 : Int32) &&& 31)) (14 : Int32) else (f_L_low (p0 >>> ((4 : Int32) &&& 31)) (54 : Int32)) - (2 : Int32)) (if p1 = 0 then (90 : Int32) + (f_L_low (p0 >>> ((5 : Int32) &&& 31)) (60 : Int32)) else p2) (if p1 = 0 then (120 : Int32) + ((2 : Int32) * p2) else p2) (if p1 = 0 then f_L_low (p0 >>> ((7 : Int32) &&& 31)) (60 : Int32) else p0 >>> ((7 : Int32) &&& 31)) p4) = (n24, r23, u21) := hw22
  try simp only [hw22] at hok
  exact hret r23 ((0 + n24), (x, w, v, u21, t)) _ _ _ _ dL_act_376 (ht.trans (by simp only [f_act_292, hw22])) hP hS hg

def f_act_377 (N : Nat) (x : XS) (w : WS) (v : WS) (r : RS) (t : TS) (p0 : Int32) (p1 : Int32) (p2 : Int32) (p3 : Int32) (p4 : Int32) : Nat × Int32 × XS × WS × WS × RS × TS :=
  ((0 + (f_L_mud x w (if p1 = 0 then (95 : Int32) + (f_L_low (p0 >>> ((9 : Int32) &&& 31)) (40 : Int32)) else p2)).1), (f_L_mud x w (if p1 = 0 then (95 : Int32) + (f_L_low (p0 >>> ((9 : Int32) &&& 31)) (40 : Int32)) else p2)).2.1, ((f_L_mud x w (if p1 = 0 then (95 : Int32) + (f_L_low (p0 >>> ((9 : Int32) &&& 31)) (40 : Int32)) else p2)).2.2).1, ((f_L_mud x w (if p1 = 0 then (95 : Int32) + (f_L_low (p0 >>> ((9 : Int32) &&& 31)) (40 : Int32)) else p2)).2.2).2, v, r, t)

def ok_act_377 (N : Nat) (x : XS) (w : WS) (v : WS) (r : RS) (t : TS) (p0 : Int32) (p1 : Int32) (p2 : Int32) (p3 : Int32) (p4 : Int32) : Prop :=
  ((p1 = 0 → ((ok_L_low (p0 >>> ((9 : Int32) &&& 31)) (40 : Int32)) ∧ True)) ∧ (¬ p1 = 0 → True)) ∧ True

set_option maxRecDepth 100000 in
set_option maxHeartbeats 8000000 in
theorem c_act_377 {p : Program} {l : Launch} {e : Env} {s : State} {m : MethodId} {args : Array Value} {below : List Frame} {meth : Method} {c : Code} {H : Heap} {locs : List Loc} {Q : State → Prop} {D : va_G} {q : Nat → ClassId} {A : Nat → Prop} {ls : Array Slot} (h aw av : Nat) (kr kt : Nat → Nat) (x : XS) (w : WS) (v : WS) (r : RS) (t : TS) (p0 p1 p2 p3 p4 : Int32) (N : Nat) (hstk : l.stackTraces = false) (fx : FX p s m args c RL cL_act 6 D q) (hSX : SX s) (hSZ0 : SZ A s s.heap) (hA : ∀ a, s.heap.size ≤ a → A a) (hD : ∀ (x : XS) (w : WS) (v : WS) (r : RS) (t : TS), va_D A (cKick h aw av kr kt q x w v r t)) (hok : ok_act_377 N x w v r t p0 p1 p2 p3 p4)
    (hret : ∀ (rv : Int32) (u : Nat × XS × WS × WS × RS × TS) (pc : Nat) (H : Heap) (locs : List Loc) (ls : Array Slot), decode cL_act pc = .ok (.ireturn, 1) → f_act_377 N x w v r t p0 p1 p2 p3 p4 = (u.1, rv, u.2) → va_P D vwCl (cKick h aw av kr kt q u.2.1 u.2.2.1 u.2.2.2.1 u.2.2.2.2.1 u.2.2.2.2.2) H → va_S A s.heap H locs → s.heap.size + u.1 ≤ H.size → W p l e RM_L_act s m args below meth c H locs 1 6 Q (F0 m pc ls [.int rv]))
    (hP : va_P D vwCl (cKick h aw av kr kt q x w v r t) H) (hS : va_S A s.heap H locs) (hg : s.heap.size + 0 ≤ H.size) (hl : lv_has ls 6 [(0, .ref h), (1, .int p0), (2, .int p1), (3, .int p2), (4, .int p3), (5, .int p4)]) : W p l e RM_L_act s m args below meth c H locs 0 0 Q (F0 m 377 ls []) := by
  have hx := fx.1
  have hb := fx.2.1
  have ht : f_act_377 N x w v r t p0 p1 p2 p3 p4 = f_act_377 N x w v r t p0 p1 p2 p3 p4 := rfl
  simp only [ok_act_377] at hok
  refine lv_aload_n hx hb dL_act_377 rfl (lv_at hl 0 rfl) ?_
  refine lv_iload_n hx hb dL_act_378 rfl (lv_at hl 2 rfl) ?_
  obtain ⟨hokA, hok⟩ := hok
  suffices K : ∀ (v5 : Int32), ∀ (H : Heap) (locs : List Loc) (ls : Array Slot), v5 = (if p1 = 0 then (95 : Int32) + (f_L_low (p0 >>> ((9 : Int32) &&& 31)) (40 : Int32)) else p2) → va_P D vwCl (cKick h aw av kr kt q x w v r t) H → va_S A s.heap H locs → s.heap.size + 0 ≤ H.size → lv_has ls 6 [(0, .ref h)] → W p l e RM_L_act s m args below meth c H locs 0 0 Q (F0 m 398 ls [.int v5, .ref h]) by
    have hok := hokA
    refine lv_if_eq (tgt := 386) hx hb dL_act_379 (by decide) (fun c1 => ?_) (fun c1 => ?_)
    · have hok := hok.1 c1
      refine lv_bipush (v := 95) hx hb dL_act_386 (by decide) ?_
      refine lv_iload_n hx hb dL_act_388 rfl (lv_at hl 1 rfl) ?_
      refine lv_bipush (v := 9) hx hb dL_act_389 (by decide) ?_
      refine lv_ishr hx hb dL_act_391 ?_
      refine lv_bipush (v := 40) hx hb dL_act_392 (by decide) ?_
      obtain ⟨hk2, hok⟩ := hok
      refine kRg_i (runS fx (As := [.int (p0 >>> ((9 : Int32) &&& 31)), .int (40 : Int32)]) (rest := [.int (95 : Int32), .ref h]) (c_L_low l D q H.size (p0 >>> ((9 : Int32) &&& 31)) (40 : Int32) hk2) lk_L_89 ⟨Nat.le_of_ble_eq_true rfl, Nat.le_of_ble_eq_true rfl⟩ ⟨rfl, rfl⟩ hP (hD _ _ _ _ _) [] rfl rfl rfl hl.1 rfl (Nat.le_of_ble_eq_true rfl) dL_act_394 ⟨Nat.zero_le _, Nat.zero_le _⟩) hP hS hg (fun r3 _ H locs hr4 hP hS hg => ?_)
      subst hr4
      refine lv_iadd hx hb dL_act_397 ?_
      exact K ((95 : Int32) + (f_L_low (p0 >>> ((9 : Int32) &&& 31)) (40 : Int32))) H locs ls (by simp only [if_pos c1]) hP hS hg (lv_sub hl [0] rfl)
    · have hok := hok.2 c1
      refine lv_iload_n hx hb dL_act_382 rfl (lv_at hl 3 rfl) ?_
      refine lv_goto (tgt := 398) hx hb dL_act_383 (by decide) ?_
      exact K p2 H locs ls (by simp only [if_neg c1]) hP hS hg (lv_sub hl [0] rfl)
  intro v5 H locs ls hvv5 hP hS hg hl
  subst hvv5
  refine kWg_i (C := fun (u9 : XS × WS) => cKick h aw av kr kt q u9.1 u9.2 v r t) (wrun fx hSX (SZ.kept hSZ0 hS.2.1) (As := [.ref h, .int (if p1 = 0 then (95 : Int32) + (f_L_low (p0 >>> ((9 : Int32) &&& 31)) (40 : Int32)) else p2)]) (rest := []) (c_L_mud l D q H.size h aw av kr kt x w v r t (if p1 = 0 then (95 : Int32) + (f_L_low (p0 >>> ((9 : Int32) &&& 31)) (40 : Int32)) else p2) hstk) lk_L_97 ⟨Nat.le_of_ble_eq_true rfl, Nat.le_of_ble_eq_true rfl⟩ ⟨rfl, rfl⟩ hP (hD _ _ _ _ _) hS hA [0, 1, 2, 3, 4, 5, 6, 7, 8, 9, 10, 11, 12, 13] rfl rfl rfl hl.1 rfl (Nat.le_of_ble_eq_true rfl) dL_act_398 ⟨Nat.le_of_ble_eq_true rfl, Nat.le_of_ble_eq_true rfl⟩) hP (hD _ _ _ _ _) hS hA hg [0, 1, 2, 3, 4, 5, 6, 7, 8, 9, 10, 11, 12, 13] rfl (fun _ => rfl) (fun r8 n9 u6 H locs hw7 hP hS hg => ?_)
  have hP : va_P D vwCl (cKick h aw av kr kt q u6.1 u6.2 v r t) H := hP
  have hw7 : (f_L_mud x w (if p1 = 0 then (95 : Int32) + (f_L_low (p0 >>> ((9 : Int32) &&& 31)) (40 : Int32)) else p2)) = (n9, r8, u6) := hw7
  try simp only [hw7] at hok
  exact hret r8 ((0 + n9), (u6.1, u6.2, v, r, t)) _ _ _ _ dL_act_401 (ht.trans (by simp only [f_act_377, hw7])) hP hS hg

def f_act_402 (N : Nat) (x : XS) (w : WS) (v : WS) (r : RS) (t : TS) (p0 : Int32) (p1 : Int32) (p2 : Int32) (p3 : Int32) (p4 : Int32) : Nat × Int32 × XS × WS × WS × RS × TS :=
  ((0 + (f_L_drill N x w r t (if p1 = 0 then (1 : Int32) + (f_L_low (p0 >>> ((9 : Int32) &&& 31)) (200 : Int32)) else p2)).1), (f_L_drill N x w r t (if p1 = 0 then (1 : Int32) + (f_L_low (p0 >>> ((9 : Int32) &&& 31)) (200 : Int32)) else p2)).2.1, x, ((f_L_drill N x w r t (if p1 = 0 then (1 : Int32) + (f_L_low (p0 >>> ((9 : Int32) &&& 31)) (200 : Int32)) else p2)).2.2), v, r, t)

def ok_act_402 (N : Nat) (x : XS) (w : WS) (v : WS) (r : RS) (t : TS) (p0 : Int32) (p1 : Int32) (p2 : Int32) (p3 : Int32) (p4 : Int32) : Prop :=
  ((p1 = 0 → ((ok_L_low (p0 >>> ((9 : Int32) &&& 31)) (200 : Int32)) ∧ True)) ∧ (¬ p1 = 0 → True)) ∧ ((ok_L_drill N x w r t (if p1 = 0 then (1 : Int32) + (f_L_low (p0 >>> ((9 : Int32) &&& 31)) (200 : Int32)) else p2)) ∧ True)

set_option maxRecDepth 100000 in
set_option maxHeartbeats 8000000 in
theorem c_act_402 {p : Program} {l : Launch} {e : Env} {s : State} {m : MethodId} {args : Array Value} {below : List Frame} {meth : Method} {c : Code} {H : Heap} {locs : List Loc} {Q : State → Prop} {D : va_G} {q : Nat → ClassId} {A : Nat → Prop} {ls : Array Slot} (h aw av : Nat) (kr kt : Nat → Nat) (x : XS) (w : WS) (v : WS) (r : RS) (t : TS) (p0 p1 p2 p3 p4 : Int32) (N : Nat) (hstk : l.stackTraces = false) (fx : FX p s m args c RL cL_act 6 D q) (hSX : SX s) (hSZ0 : SZ A s s.heap) (hA : ∀ a, s.heap.size ≤ a → A a) (hD : ∀ (x : XS) (w : WS) (v : WS) (r : RS) (t : TS), va_D A (cKick h aw av kr kt q x w v r t)) (hok : ok_act_402 N x w v r t p0 p1 p2 p3 p4)
    (hret : ∀ (rv : Int32) (u : Nat × XS × WS × WS × RS × TS) (pc : Nat) (H : Heap) (locs : List Loc) (ls : Array Slot), decode cL_act pc = .ok (.ireturn, 1) → f_act_402 N x w v r t p0 p1 p2 p3 p4 = (u.1, rv, u.2) → va_P D vwCl (cKick h aw av kr kt q u.2.1 u.2.2.1 u.2.2.2.1 u.2.2.2.2.1 u.2.2.2.2.2) H → va_S A s.heap H locs → s.heap.size + u.1 ≤ H.size → W p l e RM_L_act s m args below meth c H locs 1 6 Q (F0 m pc ls [.int rv]))
    (hP : va_P D vwCl (cKick h aw av kr kt q x w v r t) H) (hS : va_S A s.heap H locs) (hg : s.heap.size + 0 ≤ H.size) (hl : lv_has ls 6 [(0, .ref h), (1, .int p0), (2, .int p1), (3, .int p2), (4, .int p3), (5, .int p4)]) : W p l e RM_L_act s m args below meth c H locs 0 0 Q (F0 m 402 ls []) := by
  have hx := fx.1
  have hb := fx.2.1
  have ht : f_act_402 N x w v r t p0 p1 p2 p3 p4 = f_act_402 N x w v r t p0 p1 p2 p3 p4 := rfl
  simp only [ok_act_402] at hok
  refine lv_aload_n hx hb dL_act_402 rfl (lv_at hl 0 rfl) ?_
  refine lv_iload_n hx hb dL_act_403 rfl (lv_at hl 2 rfl) ?_
  obtain ⟨hokA, hok⟩ := hok
  suffices K : ∀ (v5 : Int32), ∀ (H : Heap) (locs : List Loc) (ls : Array Slot), v5 = (if p1 = 0 then (1 : Int32) + (f_L_low (p0 >>> ((9 : Int32) &&& 31)) (200 : Int32)) else p2) → va_P D vwCl (cKick h aw av kr kt q x w v r t) H → va_S A s.heap H locs → s.heap.size + 0 ≤ H.size → lv_has ls 6 [(0, .ref h)] → W p l e RM_L_act s m args below meth c H locs 0 0 Q (F0 m 423 ls [.int v5, .ref h]) by
    have hok := hokA
    refine lv_if_eq (tgt := 411) hx hb dL_act_404 (by decide) (fun c1 => ?_) (fun c1 => ?_)
    · have hok := hok.1 c1
      refine lv_iconst (v := 1) hx hb dL_act_411 (by decide) ?_
      refine lv_iload_n hx hb dL_act_412 rfl (lv_at hl 1 rfl) ?_
      refine lv_bipush (v := 9) hx hb dL_act_413 (by decide) ?_
      refine lv_ishr hx hb dL_act_415 ?_
      refine lv_sipush (v := 200) hx hb dL_act_416 (by decide) ?_
      obtain ⟨hk2, hok⟩ := hok
      refine kRg_i (runS fx (As := [.int (p0 >>> ((9 : Int32) &&& 31)), .int (200 : Int32)]) (rest := [.int (1 : Int32), .ref h]) (c_L_low l D q H.size (p0 >>> ((9 : Int32) &&& 31)) (200 : Int32) hk2) lk_L_89 ⟨Nat.le_of_ble_eq_true rfl, Nat.le_of_ble_eq_true rfl⟩ ⟨rfl, rfl⟩ hP (hD _ _ _ _ _) [] rfl rfl rfl hl.1 rfl (Nat.le_of_ble_eq_true rfl) dL_act_419 ⟨Nat.zero_le _, Nat.zero_le _⟩) hP hS hg (fun r3 _ H locs hr4 hP hS hg => ?_)
      subst hr4
      refine lv_iadd hx hb dL_act_422 ?_
      exact K ((1 : Int32) + (f_L_low (p0 >>> ((9 : Int32) &&& 31)) (200 : Int32))) H locs ls (by simp only [if_pos c1]) hP hS hg (lv_sub hl [0] rfl)
    · have hok := hok.2 c1
      refine lv_iload_n hx hb dL_act_407 rfl (lv_at hl 3 rfl) ?_
      refine lv_goto (tgt := 423) hx hb dL_act_408 (by decide) ?_
      exact K p2 H locs ls (by simp only [if_neg c1]) hP hS hg (lv_sub hl [0] rfl)
  intro v5 H locs ls hvv5 hP hS hg hl
  subst hvv5
  obtain ⟨hk6, hok⟩ := hok
  refine kWg_i (C := fun (u9 : WS) => cKick h aw av kr kt q x u9 v r t) (wrun fx hSX (SZ.kept hSZ0 hS.2.1) (As := [.ref h, .int (if p1 = 0 then (1 : Int32) + (f_L_low (p0 >>> ((9 : Int32) &&& 31)) (200 : Int32)) else p2)]) (rest := []) (c_L_drill l D q H.size h aw av kr kt x w v r t (if p1 = 0 then (1 : Int32) + (f_L_low (p0 >>> ((9 : Int32) &&& 31)) (200 : Int32)) else p2) N hk6 hstk) lk_L_100 ⟨Nat.le_of_ble_eq_true rfl, Nat.le_of_ble_eq_true rfl⟩ ⟨rfl, rfl⟩ hP (hD _ _ _ _ _) hS hA [0, 1, 2, 3, 4, 5, 6, 7, 8, 9, 10, 11, 12, 13] rfl rfl rfl hl.1 rfl (Nat.le_of_ble_eq_true rfl) dL_act_423 ⟨Nat.le_of_ble_eq_true rfl, Nat.le_of_ble_eq_true rfl⟩) hP (hD _ _ _ _ _) hS hA hg [0, 1, 2, 3, 4, 5, 6, 7, 8, 9, 10, 11, 12, 13] rfl (fun _ => rfl) (fun r9 n10 u7 H locs hw8 hP hS hg => ?_)
  have hP : va_P D vwCl (cKick h aw av kr kt q x u7 v r t) H := hP
  have hw8 : (f_L_drill N x w r t (if p1 = 0 then (1 : Int32) + (f_L_low (p0 >>> ((9 : Int32) &&& 31)) (200 : Int32)) else p2)) = (n10, r9, u7) := hw8
  try simp only [hw8] at hok
  exact hret r9 ((0 + n10), (x, u7, v, r, t)) _ _ _ _ dL_act_426 (ht.trans (by simp only [f_act_402, hw8])) hP hS hg

def f_act_427 (N : Nat) (x : XS) (w : WS) (v : WS) (r : RS) (t : TS) (p0 : Int32) (p1 : Int32) (p2 : Int32) (p3 : Int32) (p4 : Int32) : Nat × Int32 × XS × WS × WS × RS × TS :=
  ((0 + (f_L_pass N w r (if p1 = 0 then (1 : Int32) + (f_L_low (p0 >>> ((9 : Int32) &&& 31)) (40 : Int32)) else p2)).1), (f_L_pass N w r (if p1 = 0 then (1 : Int32) + (f_L_low (p0 >>> ((9 : Int32) &&& 31)) (40 : Int32)) else p2)).2.1, x, ((f_L_pass N w r (if p1 = 0 then (1 : Int32) + (f_L_low (p0 >>> ((9 : Int32) &&& 31)) (40 : Int32)) else p2)).2.2), v, r, t)

def ok_act_427 (N : Nat) (x : XS) (w : WS) (v : WS) (r : RS) (t : TS) (p0 : Int32) (p1 : Int32) (p2 : Int32) (p3 : Int32) (p4 : Int32) : Prop :=
  ((p1 = 0 → ((ok_L_low (p0 >>> ((9 : Int32) &&& 31)) (40 : Int32)) ∧ True)) ∧ (¬ p1 = 0 → True)) ∧ ((ok_L_pass N w r (if p1 = 0 then (1 : Int32) + (f_L_low (p0 >>> ((9 : Int32) &&& 31)) (40 : Int32)) else p2)) ∧ True)

set_option maxRecDepth 100000 in
set_option maxHeartbeats 8000000 in
theorem c_act_427 {p : Program} {l : Launch} {e : Env} {s : State} {m : MethodId} {args : Array Value} {below : List Frame} {meth : Method} {c : Code} {H : Heap} {locs : List Loc} {Q : State → Prop} {D : va_G} {q : Nat → ClassId} {A : Nat → Prop} {ls : Array Slot} (h aw av : Nat) (kr kt : Nat → Nat) (x : XS) (w : WS) (v : WS) (r : RS) (t : TS) (p0 p1 p2 p3 p4 : Int32) (N : Nat) (hstk : l.stackTraces = false) (fx : FX p s m args c RL cL_act 6 D q) (hSX : SX s) (hSZ0 : SZ A s s.heap) (hA : ∀ a, s.heap.size ≤ a → A a) (hD : ∀ (x : XS) (w : WS) (v : WS) (r : RS) (t : TS), va_D A (cKick h aw av kr kt q x w v r t)) (hok : ok_act_427 N x w v r t p0 p1 p2 p3 p4)
    (hret : ∀ (rv : Int32) (u : Nat × XS × WS × WS × RS × TS) (pc : Nat) (H : Heap) (locs : List Loc) (ls : Array Slot), decode cL_act pc = .ok (.ireturn, 1) → f_act_427 N x w v r t p0 p1 p2 p3 p4 = (u.1, rv, u.2) → va_P D vwCl (cKick h aw av kr kt q u.2.1 u.2.2.1 u.2.2.2.1 u.2.2.2.2.1 u.2.2.2.2.2) H → va_S A s.heap H locs → s.heap.size + u.1 ≤ H.size → W p l e RM_L_act s m args below meth c H locs 1 6 Q (F0 m pc ls [.int rv]))
    (hP : va_P D vwCl (cKick h aw av kr kt q x w v r t) H) (hS : va_S A s.heap H locs) (hg : s.heap.size + 0 ≤ H.size) (hl : lv_has ls 6 [(0, .ref h), (1, .int p0), (2, .int p1), (3, .int p2), (4, .int p3), (5, .int p4)]) : W p l e RM_L_act s m args below meth c H locs 0 0 Q (F0 m 427 ls []) := by
  have hx := fx.1
  have hb := fx.2.1
  have ht : f_act_427 N x w v r t p0 p1 p2 p3 p4 = f_act_427 N x w v r t p0 p1 p2 p3 p4 := rfl
  simp only [ok_act_427] at hok
  refine lv_aload_n hx hb dL_act_427 rfl (lv_at hl 0 rfl) ?_
  refine lv_iload_n hx hb dL_act_428 rfl (lv_at hl 2 rfl) ?_
  obtain ⟨hokA, hok⟩ := hok
  suffices K : ∀ (v5 : Int32), ∀ (H : Heap) (locs : List Loc) (ls : Array Slot), v5 = (if p1 = 0 then (1 : Int32) + (f_L_low (p0 >>> ((9 : Int32) &&& 31)) (40 : Int32)) else p2) → va_P D vwCl (cKick h aw av kr kt q x w v r t) H → va_S A s.heap H locs → s.heap.size + 0 ≤ H.size → lv_has ls 6 [(0, .ref h)] → W p l e RM_L_act s m args below meth c H locs 0 0 Q (F0 m 447 ls [.int v5, .ref h]) by
    have hok := hokA
    refine lv_if_eq (tgt := 436) hx hb dL_act_429 (by decide) (fun c1 => ?_) (fun c1 => ?_)
    · have hok := hok.1 c1
      refine lv_iconst (v := 1) hx hb dL_act_436 (by decide) ?_
      refine lv_iload_n hx hb dL_act_437 rfl (lv_at hl 1 rfl) ?_
      refine lv_bipush (v := 9) hx hb dL_act_438 (by decide) ?_
      refine lv_ishr hx hb dL_act_440 ?_
      refine lv_bipush (v := 40) hx hb dL_act_441 (by decide) ?_
      obtain ⟨hk2, hok⟩ := hok
      refine kRg_i (runS fx (As := [.int (p0 >>> ((9 : Int32) &&& 31)), .int (40 : Int32)]) (rest := [.int (1 : Int32), .ref h]) (c_L_low l D q H.size (p0 >>> ((9 : Int32) &&& 31)) (40 : Int32) hk2) lk_L_89 ⟨Nat.le_of_ble_eq_true rfl, Nat.le_of_ble_eq_true rfl⟩ ⟨rfl, rfl⟩ hP (hD _ _ _ _ _) [] rfl rfl rfl hl.1 rfl (Nat.le_of_ble_eq_true rfl) dL_act_443 ⟨Nat.zero_le _, Nat.zero_le _⟩) hP hS hg (fun r3 _ H locs hr4 hP hS hg => ?_)
      subst hr4
      refine lv_iadd hx hb dL_act_446 ?_
      exact K ((1 : Int32) + (f_L_low (p0 >>> ((9 : Int32) &&& 31)) (40 : Int32))) H locs ls (by simp only [if_pos c1]) hP hS hg (lv_sub hl [0] rfl)
    · have hok := hok.2 c1
      refine lv_iload_n hx hb dL_act_432 rfl (lv_at hl 3 rfl) ?_
      refine lv_goto (tgt := 447) hx hb dL_act_433 (by decide) ?_
      exact K p2 H locs ls (by simp only [if_neg c1]) hP hS hg (lv_sub hl [0] rfl)
  intro v5 H locs ls hvv5 hP hS hg hl
  subst hvv5
  obtain ⟨hk6, hok⟩ := hok
  refine kWg_i (C := fun (u9 : WS) => cKick h aw av kr kt q x u9 v r t) (wrun fx hSX (SZ.kept hSZ0 hS.2.1) (As := [.ref h, .int (if p1 = 0 then (1 : Int32) + (f_L_low (p0 >>> ((9 : Int32) &&& 31)) (40 : Int32)) else p2)]) (rest := []) (c_L_pass l D q H.size h aw av kr kt x w v r t (if p1 = 0 then (1 : Int32) + (f_L_low (p0 >>> ((9 : Int32) &&& 31)) (40 : Int32)) else p2) N hk6 hstk) lk_L_102 ⟨Nat.le_of_ble_eq_true rfl, Nat.le_of_ble_eq_true rfl⟩ ⟨rfl, rfl⟩ hP (hD _ _ _ _ _) hS hA [0, 1, 2, 3, 4, 5, 6, 7, 8, 9, 10, 11, 12, 13] rfl rfl rfl hl.1 rfl (Nat.le_of_ble_eq_true rfl) dL_act_447 ⟨Nat.le_of_ble_eq_true rfl, Nat.le_of_ble_eq_true rfl⟩) hP (hD _ _ _ _ _) hS hA hg [0, 1, 2, 3, 4, 5, 6, 7, 8, 9, 10, 11, 12, 13] rfl (fun _ => rfl) (fun r9 n10 u7 H locs hw8 hP hS hg => ?_)
  have hP : va_P D vwCl (cKick h aw av kr kt q x u7 v r t) H := hP
  have hw8 : (f_L_pass N w r (if p1 = 0 then (1 : Int32) + (f_L_low (p0 >>> ((9 : Int32) &&& 31)) (40 : Int32)) else p2)) = (n10, r9, u7) := hw8
  try simp only [hw8] at hok
  exact hret r9 ((0 + n10), (x, u7, v, r, t)) _ _ _ _ dL_act_450 (ht.trans (by simp only [f_act_427, hw8])) hP hS hg

def f_act_451 (N : Nat) (x : XS) (w : WS) (v : WS) (r : RS) (t : TS) (p0 : Int32) (p1 : Int32) (p2 : Int32) (p3 : Int32) (p4 : Int32) : Nat × Int32 × XS × WS × WS × RS × TS :=
  ((0 + (f_L_close w).1), (f_L_close w).2.1, x, ((f_L_close w).2.2), v, r, t)

set_option maxRecDepth 100000 in
set_option maxHeartbeats 8000000 in
theorem c_act_451 {p : Program} {l : Launch} {e : Env} {s : State} {m : MethodId} {args : Array Value} {below : List Frame} {meth : Method} {c : Code} {H : Heap} {locs : List Loc} {Q : State → Prop} {D : va_G} {q : Nat → ClassId} {A : Nat → Prop} {ls : Array Slot} (h aw av : Nat) (kr kt : Nat → Nat) (x : XS) (w : WS) (v : WS) (r : RS) (t : TS) (p0 p1 p2 p3 p4 : Int32) (N : Nat) (hstk : l.stackTraces = false) (fx : FX p s m args c RL cL_act 6 D q) (hSX : SX s) (hSZ0 : SZ A s s.heap) (hA : ∀ a, s.heap.size ≤ a → A a) (hD : ∀ (x : XS) (w : WS) (v : WS) (r : RS) (t : TS), va_D A (cKick h aw av kr kt q x w v r t))
    (hret : ∀ (rv : Int32) (u : Nat × XS × WS × WS × RS × TS) (pc : Nat) (H : Heap) (locs : List Loc) (ls : Array Slot), decode cL_act pc = .ok (.ireturn, 1) → f_act_451 N x w v r t p0 p1 p2 p3 p4 = (u.1, rv, u.2) → va_P D vwCl (cKick h aw av kr kt q u.2.1 u.2.2.1 u.2.2.2.1 u.2.2.2.2.1 u.2.2.2.2.2) H → va_S A s.heap H locs → s.heap.size + u.1 ≤ H.size → W p l e RM_L_act s m args below meth c H locs 1 6 Q (F0 m pc ls [.int rv]))
    (hP : va_P D vwCl (cKick h aw av kr kt q x w v r t) H) (hS : va_S A s.heap H locs) (hg : s.heap.size + 0 ≤ H.size) (hl : lv_has ls 6 [(0, .ref h), (1, .int p0), (2, .int p1), (3, .int p2), (4, .int p3), (5, .int p4)]) : W p l e RM_L_act s m args below meth c H locs 0 0 Q (F0 m 451 ls []) := by
  have hx := fx.1
  have hb := fx.2.1
  have ht : f_act_451 N x w v r t p0 p1 p2 p3 p4 = f_act_451 N x w v r t p0 p1 p2 p3 p4 := rfl
  refine lv_aload_n hx hb dL_act_451 rfl (lv_at hl 0 rfl) ?_
  refine kWg_i (C := fun (u9 : WS) => cKick h aw av kr kt q x u9 v r t) (wrun fx hSX (SZ.kept hSZ0 hS.2.1) (As := [.ref h]) (rest := []) (c_L_close l D q H.size h aw av kr kt x w v r t hstk) lk_L_104 ⟨Nat.le_of_ble_eq_true rfl, Nat.le_of_ble_eq_true rfl⟩ ⟨rfl, rfl⟩ hP (hD _ _ _ _ _) hS hA [0, 1, 2, 3, 4, 5, 6, 7, 8, 9, 10, 11, 12, 13] rfl rfl rfl hl.1 rfl (Nat.le_of_ble_eq_true rfl) dL_act_452 ⟨Nat.le_of_ble_eq_true rfl, Nat.le_of_ble_eq_true rfl⟩) hP (hD _ _ _ _ _) hS hA hg [0, 1, 2, 3, 4, 5, 6, 7, 8, 9, 10, 11, 12, 13] rfl (fun _ => rfl) (fun r3 n4 u1 H locs hw2 hP hS hg => ?_)
  have hP : va_P D vwCl (cKick h aw av kr kt q x u1 v r t) H := hP
  have hw2 : (f_L_close w) = (n4, r3, u1) := hw2
  exact hret r3 ((0 + n4), (x, u1, v, r, t)) _ _ _ _ dL_act_455 (ht.trans (by simp only [f_act_451, hw2])) hP hS hg

def f_act_456 (N : Nat) (x : XS) (w : WS) (v : WS) (r : RS) (t : TS) (p0 : Int32) (p1 : Int32) (p2 : Int32) (p3 : Int32) (p4 : Int32) : Nat × Int32 × XS × WS × WS × RS × TS :=
  ((0 + (f_L_open w).1), (f_L_open w).2.1, x, ((f_L_open w).2.2), v, r, t)

set_option maxRecDepth 100000 in
set_option maxHeartbeats 8000000 in
theorem c_act_456 {p : Program} {l : Launch} {e : Env} {s : State} {m : MethodId} {args : Array Value} {below : List Frame} {meth : Method} {c : Code} {H : Heap} {locs : List Loc} {Q : State → Prop} {D : va_G} {q : Nat → ClassId} {A : Nat → Prop} {ls : Array Slot} (h aw av : Nat) (kr kt : Nat → Nat) (x : XS) (w : WS) (v : WS) (r : RS) (t : TS) (p0 p1 p2 p3 p4 : Int32) (N : Nat) (hstk : l.stackTraces = false) (fx : FX p s m args c RL cL_act 6 D q) (hSX : SX s) (hSZ0 : SZ A s s.heap) (hA : ∀ a, s.heap.size ≤ a → A a) (hD : ∀ (x : XS) (w : WS) (v : WS) (r : RS) (t : TS), va_D A (cKick h aw av kr kt q x w v r t))
    (hret : ∀ (rv : Int32) (u : Nat × XS × WS × WS × RS × TS) (pc : Nat) (H : Heap) (locs : List Loc) (ls : Array Slot), decode cL_act pc = .ok (.ireturn, 1) → f_act_456 N x w v r t p0 p1 p2 p3 p4 = (u.1, rv, u.2) → va_P D vwCl (cKick h aw av kr kt q u.2.1 u.2.2.1 u.2.2.2.1 u.2.2.2.2.1 u.2.2.2.2.2) H → va_S A s.heap H locs → s.heap.size + u.1 ≤ H.size → W p l e RM_L_act s m args below meth c H locs 1 6 Q (F0 m pc ls [.int rv]))
    (hP : va_P D vwCl (cKick h aw av kr kt q x w v r t) H) (hS : va_S A s.heap H locs) (hg : s.heap.size + 0 ≤ H.size) (hl : lv_has ls 6 [(0, .ref h), (1, .int p0), (2, .int p1), (3, .int p2), (4, .int p3), (5, .int p4)]) : W p l e RM_L_act s m args below meth c H locs 0 0 Q (F0 m 456 ls []) := by
  have hx := fx.1
  have hb := fx.2.1
  have ht : f_act_456 N x w v r t p0 p1 p2 p3 p4 = f_act_456 N x w v r t p0 p1 p2 p3 p4 := rfl
  refine lv_aload_n hx hb dL_act_456 rfl (lv_at hl 0 rfl) ?_
  refine kWg_i (C := fun (u9 : WS) => cKick h aw av kr kt q x u9 v r t) (wrun fx hSX (SZ.kept hSZ0 hS.2.1) (As := [.ref h]) (rest := []) (c_L_open l D q H.size h aw av kr kt x w v r t hstk) lk_L_107 ⟨Nat.le_of_ble_eq_true rfl, Nat.le_of_ble_eq_true rfl⟩ ⟨rfl, rfl⟩ hP (hD _ _ _ _ _) hS hA [0, 1, 2, 3, 4, 5, 6, 7, 8, 9, 10, 11, 12, 13] rfl rfl rfl hl.1 rfl (Nat.le_of_ble_eq_true rfl) dL_act_457 ⟨Nat.le_of_ble_eq_true rfl, Nat.le_of_ble_eq_true rfl⟩) hP (hD _ _ _ _ _) hS hA hg [0, 1, 2, 3, 4, 5, 6, 7, 8, 9, 10, 11, 12, 13] rfl (fun _ => rfl) (fun r3 n4 u1 H locs hw2 hP hS hg => ?_)
  have hP : va_P D vwCl (cKick h aw av kr kt q x u1 v r t) H := hP
  have hw2 : (f_L_open w) = (n4, r3, u1) := hw2
  exact hret r3 ((0 + n4), (x, u1, v, r, t)) _ _ _ _ dL_act_460 (ht.trans (by simp only [f_act_456, hw2])) hP hS hg

def f_act_461 (N : Nat) (x : XS) (w : WS) (v : WS) (r : RS) (t : TS) (p0 : Int32) (p1 : Int32) (p2 : Int32) (p3 : Int32) (p4 : Int32) : Nat × Int32 × XS × WS × WS × RS × TS :=
  ((0 + (f_L_pump N x w r (if p1 = 0 then (1 : Int32) + p2 else p2) (if p1 = 0 then (100 : Int32) + ((5 : Int32) * (f_L_low (p0 >>> ((5 : Int32) &&& 31)) (9 : Int32))) else p0 >>> ((8 : Int32) &&& 31))).1), (f_L_pump N x w r (if p1 = 0 then (1 : Int32) + p2 else p2) (if p1 = 0 then (100 : Int32) + ((5 : Int32) * (f_L_low (p0 >>> ((5 : Int32) &&& 31)) (9 : Int32))) else p0 >>> ((8 : Int32) &&& 31))).2.1, ((f_L_pump N x w r (if p1 = 0 then (1 : Int32) + p2 else p2) (if p1 = 0 then (100 : Int32) + ((5 : Int32) * (f_L_low (p0 >>> ((5 : Int32) &&& 31)) (9 : Int32))) else p0 >>> ((8 : Int32) &&& 31))).2.2).1, ((f_L_pump N x w r (if p1 = 0 then (1 : Int32) + p2 else p2) (if p1 = 0 then (100 : Int32) + ((5 : Int32) * (f_L_low (p0 >>> ((5 : Int32) &&& 31)) (9 : Int32))) else p0 >>> ((8 : Int32) &&& 31))).2.2).2, v, r, t)

def ok_act_461 (N : Nat) (x : XS) (w : WS) (v : WS) (r : RS) (t : TS) (p0 : Int32) (p1 : Int32) (p2 : Int32) (p3 : Int32) (p4 : Int32) : Prop :=
  ((p1 = 0 → ((ok_L_low (p0 >>> ((5 : Int32) &&& 31)) (9 : Int32)) ∧ True)) ∧ (¬ p1 = 0 → True)) ∧ ((ok_L_pump N x w r (if p1 = 0 then (1 : Int32) + p2 else p2) (if p1 = 0 then (100 : Int32) + ((5 : Int32) * (f_L_low (p0 >>> ((5 : Int32) &&& 31)) (9 : Int32))) else p0 >>> ((8 : Int32) &&& 31))) ∧ True)

set_option maxRecDepth 100000 in
set_option maxHeartbeats 8000000 in
theorem c_act_461 {p : Program} {l : Launch} {e : Env} {s : State} {m : MethodId} {args : Array Value} {below : List Frame} {meth : Method} {c : Code} {H : Heap} {locs : List Loc} {Q : State → Prop} {D : va_G} {q : Nat → ClassId} {A : Nat → Prop} {ls : Array Slot} (h aw av : Nat) (kr kt : Nat → Nat) (x : XS) (w : WS) (v : WS) (r : RS) (t : TS) (p0 p1 p2 p3 p4 : Int32) (N : Nat) (hstk : l.stackTraces = false) (fx : FX p s m args c RL cL_act 6 D q) (hSX : SX s) (hSZ0 : SZ A s s.heap) (hA : ∀ a, s.heap.size ≤ a → A a) (hD : ∀ (x : XS) (w : WS) (v : WS) (r : RS) (t : TS), va_D A (cKick h aw av kr kt q x w v r t)) (hok : ok_act_461 N x w v r t p0 p1 p2 p3 p4)
    (hret : ∀ (rv : Int32) (u : Nat × XS × WS × WS × RS × TS) (pc : Nat) (H : Heap) (locs : List Loc) (ls : Array Slot), decode cL_act pc = .ok (.ireturn, 1) → f_act_461 N x w v r t p0 p1 p2 p3 p4 = (u.1, rv, u.2) → va_P D vwCl (cKick h aw av kr kt q u.2.1 u.2.2.1 u.2.2.2.1 u.2.2.2.2.1 u.2.2.2.2.2) H → va_S A s.heap H locs → s.heap.size + u.1 ≤ H.size → W p l e RM_L_act s m args below meth c H locs 1 6 Q (F0 m pc ls [.int rv]))
    (hP : va_P D vwCl (cKick h aw av kr kt q x w v r t) H) (hS : va_S A s.heap H locs) (hg : s.heap.size + 0 ≤ H.size) (hl : lv_has ls 6 [(0, .ref h), (1, .int p0), (2, .int p1), (3, .int p2), (4, .int p3), (5, .int p4)]) : W p l e RM_L_act s m args below meth c H locs 0 0 Q (F0 m 461 ls []) := by
  have hx := fx.1
  have hb := fx.2.1
  have ht : f_act_461 N x w v r t p0 p1 p2 p3 p4 = f_act_461 N x w v r t p0 p1 p2 p3 p4 := rfl
  simp only [ok_act_461] at hok
  refine lv_aload_n hx hb dL_act_461 rfl (lv_at hl 0 rfl) ?_
  refine lv_iload_n hx hb dL_act_462 rfl (lv_at hl 2 rfl) ?_
  suffices K : ∀ (v2 : Int32), ∀ (H : Heap) (locs : List Loc) (ls : Array Slot), v2 = (if p1 = 0 then (1 : Int32) + p2 else p2) → va_P D vwCl (cKick h aw av kr kt q x w v r t) H → va_S A s.heap H locs → s.heap.size + 0 ≤ H.size → lv_has ls 6 [(0, .ref h), (1, .int p0), (2, .int p1)] → W p l e RM_L_act s m args below meth c H locs 0 0 Q (F0 m 473 ls [.int v2, .ref h]) by
    refine lv_if_eq (tgt := 470) hx hb dL_act_463 (by decide) (fun c1 => ?_) (fun c1 => ?_)
    · refine lv_iconst (v := 1) hx hb dL_act_470 (by decide) ?_
      refine lv_iload_n hx hb dL_act_471 rfl (lv_at hl 3 rfl) ?_
      refine lv_iadd hx hb dL_act_472 ?_
      exact K ((1 : Int32) + p2) H locs ls (by simp only [if_pos c1]) hP hS hg (lv_sub hl [0, 1, 2] rfl)
    · refine lv_iload_n hx hb dL_act_466 rfl (lv_at hl 3 rfl) ?_
      refine lv_goto (tgt := 473) hx hb dL_act_467 (by decide) ?_
      exact K p2 H locs ls (by simp only [if_neg c1]) hP hS hg (lv_sub hl [0, 1, 2] rfl)
  intro v2 H locs ls hvv2 hP hS hg hl
  subst hvv2
  refine lv_iload_n hx hb dL_act_473 rfl (lv_at hl 2 rfl) ?_
  obtain ⟨hokA, hok⟩ := hok
  suffices K : ∀ (v7 : Int32), ∀ (H : Heap) (locs : List Loc) (ls : Array Slot), v7 = (if p1 = 0 then (100 : Int32) + ((5 : Int32) * (f_L_low (p0 >>> ((5 : Int32) &&& 31)) (9 : Int32))) else p0 >>> ((8 : Int32) &&& 31)) → va_P D vwCl (cKick h aw av kr kt q x w v r t) H → va_S A s.heap H locs → s.heap.size + 0 ≤ H.size → lv_has ls 6 [(0, .ref h)] → W p l e RM_L_act s m args below meth c H locs 0 0 Q (F0 m 497 ls [.int v7, .int (if p1 = 0 then (1 : Int32) + p2 else p2), .ref h]) by
    have hok := hokA
    refine lv_if_eq (tgt := 484) hx hb dL_act_474 (by decide) (fun c3 => ?_) (fun c3 => ?_)
    · have hok := hok.1 c3
      refine lv_bipush (v := 100) hx hb dL_act_484 (by decide) ?_
      refine lv_iconst (v := 5) hx hb dL_act_486 (by decide) ?_
      refine lv_iload_n hx hb dL_act_487 rfl (lv_at hl 1 rfl) ?_
      refine lv_iconst (v := 5) hx hb dL_act_488 (by decide) ?_
      refine lv_ishr hx hb dL_act_489 ?_
      refine lv_bipush (v := 9) hx hb dL_act_490 (by decide) ?_
      obtain ⟨hk4, hok⟩ := hok
      refine kRg_i (runS fx (As := [.int (p0 >>> ((5 : Int32) &&& 31)), .int (9 : Int32)]) (rest := [.int (5 : Int32), .int (100 : Int32), .int (if p1 = 0 then (1 : Int32) + p2 else p2), .ref h]) (c_L_low l D q H.size (p0 >>> ((5 : Int32) &&& 31)) (9 : Int32) hk4) lk_L_89 ⟨Nat.le_of_ble_eq_true rfl, Nat.le_of_ble_eq_true rfl⟩ ⟨rfl, rfl⟩ hP (hD _ _ _ _ _) [] rfl rfl rfl hl.1 rfl (Nat.le_of_ble_eq_true rfl) dL_act_492 ⟨Nat.zero_le _, Nat.zero_le _⟩) hP hS hg (fun r5 _ H locs hr6 hP hS hg => ?_)
      subst hr6
      refine lv_imul hx hb dL_act_495 ?_
      refine lv_iadd hx hb dL_act_496 ?_
      exact K ((100 : Int32) + ((5 : Int32) * (f_L_low (p0 >>> ((5 : Int32) &&& 31)) (9 : Int32)))) H locs ls (by simp only [if_pos c3]) hP hS hg (lv_sub hl [0] rfl)
    · have hok := hok.2 c3
      refine lv_iload_n hx hb dL_act_477 rfl (lv_at hl 1 rfl) ?_
      refine lv_bipush (v := 8) hx hb dL_act_478 (by decide) ?_
      refine lv_ishr hx hb dL_act_480 ?_
      refine lv_goto (tgt := 497) hx hb dL_act_481 (by decide) ?_
      exact K (p0 >>> ((8 : Int32) &&& 31)) H locs ls (by simp only [if_neg c3]) hP hS hg (lv_sub hl [0] rfl)
  intro v7 H locs ls hvv7 hP hS hg hl
  subst hvv7
  obtain ⟨hk8, hok⟩ := hok
  refine kWg_i (C := fun (u9 : XS × WS) => cKick h aw av kr kt q u9.1 u9.2 v r t) (wrun fx hSX (SZ.kept hSZ0 hS.2.1) (As := [.ref h, .int (if p1 = 0 then (1 : Int32) + p2 else p2), .int (if p1 = 0 then (100 : Int32) + ((5 : Int32) * (f_L_low (p0 >>> ((5 : Int32) &&& 31)) (9 : Int32))) else p0 >>> ((8 : Int32) &&& 31))]) (rest := []) (c_L_pump l D q H.size h aw av kr kt x w v r t (if p1 = 0 then (1 : Int32) + p2 else p2) (if p1 = 0 then (100 : Int32) + ((5 : Int32) * (f_L_low (p0 >>> ((5 : Int32) &&& 31)) (9 : Int32))) else p0 >>> ((8 : Int32) &&& 31)) N hk8 hstk) lk_L_109 ⟨Nat.le_of_ble_eq_true rfl, Nat.le_of_ble_eq_true rfl⟩ ⟨rfl, rfl⟩ hP (hD _ _ _ _ _) hS hA [0, 1, 2, 3, 4, 5, 6, 7, 8, 9, 10, 11, 12, 13] rfl rfl rfl hl.1 rfl (Nat.le_of_ble_eq_true rfl) dL_act_497 ⟨Nat.le_of_ble_eq_true rfl, Nat.le_of_ble_eq_true rfl⟩) hP (hD _ _ _ _ _) hS hA hg [0, 1, 2, 3, 4, 5, 6, 7, 8, 9, 10, 11, 12, 13] rfl (fun _ => rfl) (fun r11 n12 u9 H locs hw10 hP hS hg => ?_)
  have hP : va_P D vwCl (cKick h aw av kr kt q u9.1 u9.2 v r t) H := hP
  have hw10 : (f_L_pump N x w r (if p1 = 0 then (1 : Int32) + p2 else p2) (if p1 = 0 then (100 : Int32) + ((5 : Int32) * (f_L_low (p0 >>> ((5 : Int32) &&& 31)) (9 : Int32))) else p0 >>> ((8 : Int32) &&& 31))) = (n12, r11, u9) := hw10
  try simp only [hw10] at hok
  exact hret r11 ((0 + n12), (u9.1, u9.2, v, r, t)) _ _ _ _ dL_act_500 (ht.trans (by simp only [f_act_461, hw10])) hP hS hg

def f_act_501 (N : Nat) (x : XS) (w : WS) (v : WS) (r : RS) (t : TS) (p0 : Int32) (p1 : Int32) (p2 : Int32) (p3 : Int32) (p4 : Int32) : Nat × Int32 × XS × WS × WS × RS × TS :=
  ((0 + (f_L_casing x w t (if p1 = 0 then (10 : Int32) * p2 else p0 >>> ((7 : Int32) &&& 31))).1), (f_L_casing x w t (if p1 = 0 then (10 : Int32) * p2 else p0 >>> ((7 : Int32) &&& 31))).2.1, ((f_L_casing x w t (if p1 = 0 then (10 : Int32) * p2 else p0 >>> ((7 : Int32) &&& 31))).2.2).1, ((f_L_casing x w t (if p1 = 0 then (10 : Int32) * p2 else p0 >>> ((7 : Int32) &&& 31))).2.2).2.1, v, r, ((f_L_casing x w t (if p1 = 0 then (10 : Int32) * p2 else p0 >>> ((7 : Int32) &&& 31))).2.2).2.2)

set_option maxRecDepth 100000 in
set_option maxHeartbeats 8000000 in
theorem c_act_501 {p : Program} {l : Launch} {e : Env} {s : State} {m : MethodId} {args : Array Value} {below : List Frame} {meth : Method} {c : Code} {H : Heap} {locs : List Loc} {Q : State → Prop} {D : va_G} {q : Nat → ClassId} {A : Nat → Prop} {ls : Array Slot} (h aw av : Nat) (kr kt : Nat → Nat) (x : XS) (w : WS) (v : WS) (r : RS) (t : TS) (p0 p1 p2 p3 p4 : Int32) (N : Nat) (hstk : l.stackTraces = false) (fx : FX p s m args c RL cL_act 6 D q) (hSX : SX s) (hSZ0 : SZ A s s.heap) (hA : ∀ a, s.heap.size ≤ a → A a) (hD : ∀ (x : XS) (w : WS) (v : WS) (r : RS) (t : TS), va_D A (cKick h aw av kr kt q x w v r t))
    (hret : ∀ (rv : Int32) (u : Nat × XS × WS × WS × RS × TS) (pc : Nat) (H : Heap) (locs : List Loc) (ls : Array Slot), decode cL_act pc = .ok (.ireturn, 1) → f_act_501 N x w v r t p0 p1 p2 p3 p4 = (u.1, rv, u.2) → va_P D vwCl (cKick h aw av kr kt q u.2.1 u.2.2.1 u.2.2.2.1 u.2.2.2.2.1 u.2.2.2.2.2) H → va_S A s.heap H locs → s.heap.size + u.1 ≤ H.size → W p l e RM_L_act s m args below meth c H locs 1 6 Q (F0 m pc ls [.int rv]))
    (hP : va_P D vwCl (cKick h aw av kr kt q x w v r t) H) (hS : va_S A s.heap H locs) (hg : s.heap.size + 0 ≤ H.size) (hl : lv_has ls 6 [(0, .ref h), (1, .int p0), (2, .int p1), (3, .int p2), (4, .int p3), (5, .int p4)]) : W p l e RM_L_act s m args below meth c H locs 0 0 Q (F0 m 501 ls []) := by
  have hx := fx.1
  have hb := fx.2.1
  have ht : f_act_501 N x w v r t p0 p1 p2 p3 p4 = f_act_501 N x w v r t p0 p1 p2 p3 p4 := rfl
  refine lv_aload_n hx hb dL_act_501 rfl (lv_at hl 0 rfl) ?_
  refine lv_iload_n hx hb dL_act_502 rfl (lv_at hl 2 rfl) ?_
  suffices K : ∀ (v2 : Int32), ∀ (H : Heap) (locs : List Loc) (ls : Array Slot), v2 = (if p1 = 0 then (10 : Int32) * p2 else p0 >>> ((7 : Int32) &&& 31)) → va_P D vwCl (cKick h aw av kr kt q x w v r t) H → va_S A s.heap H locs → s.heap.size + 0 ≤ H.size → lv_has ls 6 [(0, .ref h)] → W p l e RM_L_act s m args below meth c H locs 0 0 Q (F0 m 517 ls [.int v2, .ref h]) by
    refine lv_if_eq (tgt := 513) hx hb dL_act_503 (by decide) (fun c1 => ?_) (fun c1 => ?_)
    · refine lv_bipush (v := 10) hx hb dL_act_513 (by decide) ?_
      refine lv_iload_n hx hb dL_act_515 rfl (lv_at hl 3 rfl) ?_
      refine lv_imul hx hb dL_act_516 ?_
      exact K ((10 : Int32) * p2) H locs ls (by simp only [if_pos c1]) hP hS hg (lv_sub hl [0] rfl)
    · refine lv_iload_n hx hb dL_act_506 rfl (lv_at hl 1 rfl) ?_
      refine lv_bipush (v := 7) hx hb dL_act_507 (by decide) ?_
      refine lv_ishr hx hb dL_act_509 ?_
      refine lv_goto (tgt := 517) hx hb dL_act_510 (by decide) ?_
      exact K (p0 >>> ((7 : Int32) &&& 31)) H locs ls (by simp only [if_neg c1]) hP hS hg (lv_sub hl [0] rfl)
  intro v2 H locs ls hvv2 hP hS hg hl
  subst hvv2
  refine kWg_i (C := fun (u9 : XS × WS × TS) => cKick h aw av kr kt q u9.1 u9.2.1 v r u9.2.2) (wrun fx hSX (SZ.kept hSZ0 hS.2.1) (As := [.ref h, .int (if p1 = 0 then (10 : Int32) * p2 else p0 >>> ((7 : Int32) &&& 31))]) (rest := []) (c_L_casing l D q H.size h aw av kr kt x w v r t (if p1 = 0 then (10 : Int32) * p2 else p0 >>> ((7 : Int32) &&& 31)) hstk) lk_L_112 ⟨Nat.le_of_ble_eq_true rfl, Nat.le_of_ble_eq_true rfl⟩ ⟨rfl, rfl⟩ hP (hD _ _ _ _ _) hS hA [0, 1, 2, 3, 4, 5, 6, 7, 8, 9, 10, 11, 12, 13] rfl rfl rfl hl.1 rfl (Nat.le_of_ble_eq_true rfl) dL_act_517 ⟨Nat.le_of_ble_eq_true rfl, Nat.le_of_ble_eq_true rfl⟩) hP (hD _ _ _ _ _) hS hA hg [0, 1, 2, 3, 4, 5, 6, 7, 8, 9, 10, 11, 12, 13] rfl (fun _ => rfl) (fun r5 n6 u3 H locs hw4 hP hS hg => ?_)
  have hP : va_P D vwCl (cKick h aw av kr kt q u3.1 u3.2.1 v r u3.2.2) H := hP
  have hw4 : (f_L_casing x w t (if p1 = 0 then (10 : Int32) * p2 else p0 >>> ((7 : Int32) &&& 31))) = (n6, r5, u3) := hw4
  exact hret r5 ((0 + n6), (u3.1, u3.2.1, v, r, u3.2.2)) _ _ _ _ dL_act_520 (ht.trans (by simp only [f_act_501, hw4])) hP hS hg

def f_act_521 (N : Nat) (x : XS) (w : WS) (v : WS) (r : RS) (t : TS) (p0 : Int32) (p1 : Int32) (p2 : Int32) (p3 : Int32) (p4 : Int32) : Nat × Int32 × XS × WS × WS × RS × TS :=
  if (f_L_low (p0 >>> ((12 : Int32) &&& 31)) (4 : Int32)) = 0 then ((0 + (f_L_strength w (if p1 = 0 then (200 : Int32) * p2 else p0)).1), (f_L_strength w (if p1 = 0 then (200 : Int32) * p2 else p0)).2.1, x, ((f_L_strength w (if p1 = 0 then (200 : Int32) * p2 else p0)).2.2), v, r, t) else (0, f_X3_bars x w r t, x, w, v, r, t)

def ok_act_521 (N : Nat) (x : XS) (w : WS) (v : WS) (r : RS) (t : TS) (p0 : Int32) (p1 : Int32) (p2 : Int32) (p3 : Int32) (p4 : Int32) : Prop :=
  (ok_L_low (p0 >>> ((12 : Int32) &&& 31)) (4 : Int32)) ∧ True

set_option maxRecDepth 100000 in
set_option maxHeartbeats 8000000 in
theorem c_act_521 {p : Program} {l : Launch} {e : Env} {s : State} {m : MethodId} {args : Array Value} {below : List Frame} {meth : Method} {c : Code} {H : Heap} {locs : List Loc} {Q : State → Prop} {D : va_G} {q : Nat → ClassId} {A : Nat → Prop} {ls : Array Slot} (h aw av : Nat) (kr kt : Nat → Nat) (x : XS) (w : WS) (v : WS) (r : RS) (t : TS) (p0 p1 p2 p3 p4 : Int32) (N : Nat) (hstk : l.stackTraces = false) (fx : FX p s m args c RL cL_act 6 D q) (hSX : SX s) (hSZ0 : SZ A s s.heap) (hA : ∀ a, s.heap.size ≤ a → A a) (hD : ∀ (x : XS) (w : WS) (v : WS) (r : RS) (t : TS), va_D A (cKick h aw av kr kt q x w v r t)) (hok : ok_act_521 N x w v r t p0 p1 p2 p3 p4)
    (hret : ∀ (rv : Int32) (u : Nat × XS × WS × WS × RS × TS) (pc : Nat) (H : Heap) (locs : List Loc) (ls : Array Slot), decode cL_act pc = .ok (.ireturn, 1) → f_act_521 N x w v r t p0 p1 p2 p3 p4 = (u.1, rv, u.2) → va_P D vwCl (cKick h aw av kr kt q u.2.1 u.2.2.1 u.2.2.2.1 u.2.2.2.2.1 u.2.2.2.2.2) H → va_S A s.heap H locs → s.heap.size + u.1 ≤ H.size → W p l e RM_L_act s m args below meth c H locs 1 6 Q (F0 m pc ls [.int rv]))
    (hP : va_P D vwCl (cKick h aw av kr kt q x w v r t) H) (hS : va_S A s.heap H locs) (hg : s.heap.size + 0 ≤ H.size) (hl : lv_has ls 6 [(0, .ref h), (1, .int p0), (2, .int p1), (3, .int p2), (4, .int p3), (5, .int p4)]) : W p l e RM_L_act s m args below meth c H locs 0 0 Q (F0 m 521 ls []) := by
  have hx := fx.1
  have hb := fx.2.1
  have ht : f_act_521 N x w v r t p0 p1 p2 p3 p4 = f_act_521 N x w v r t p0 p1 p2 p3 p4 := rfl
  simp only [ok_act_521] at hok
  refine lv_iload_n hx hb dL_act_521 rfl (lv_at hl 1 rfl) ?_
  refine lv_bipush (v := 12) hx hb dL_act_522 (by decide) ?_
  refine lv_ishr hx hb dL_act_524 ?_
  refine lv_iconst (v := 4) hx hb dL_act_525 (by decide) ?_
  obtain ⟨hk1, hok⟩ := hok
  refine kRg_i (runS fx (As := [.int (p0 >>> ((12 : Int32) &&& 31)), .int (4 : Int32)]) (rest := []) (c_L_low l D q H.size (p0 >>> ((12 : Int32) &&& 31)) (4 : Int32) hk1) lk_L_89 ⟨Nat.le_of_ble_eq_true rfl, Nat.le_of_ble_eq_true rfl⟩ ⟨rfl, rfl⟩ hP (hD _ _ _ _ _) [] rfl rfl rfl hl.1 rfl (Nat.le_of_ble_eq_true rfl) dL_act_526 ⟨Nat.zero_le _, Nat.zero_le _⟩) hP hS hg (fun r2 _ H locs hr3 hP hS hg => ?_)
  subst hr3
  refine lv_if_ne (tgt := 552) hx hb dL_act_529 (by decide) (fun c4 => ?_) (fun c4 => ?_)
  · refine lv_aload_n hx hb dL_act_552 rfl (lv_at hl 0 rfl) ?_
    refine kRg_i (runV fx (As := []) (rest := []) (c_X3_bars l D q H.size h aw av kr kt x w v r t) lk_L_116 ⟨Nat.le_of_ble_eq_true rfl, Nat.le_of_ble_eq_true rfl⟩ ⟨rfl, rfl⟩ hP (hD _ _ _ _ _) [0, 1, 2, 3, 4, 5, 6, 7, 8, 9, 10, 11, 12, 13] rfl rfl (ci := 3) rfl rfl rfl hl.1 rfl (Nat.le_of_ble_eq_true rfl) dL_act_553 ⟨Nat.zero_le _, Nat.zero_le _⟩) hP hS hg (fun r5 _ H locs hr6 hP hS hg => ?_)
    subst hr6
    refine W.widen (k := 1) (n := 6) (Nat.zero_le _) (Nat.zero_le _) ?_
    exact hret (f_X3_bars x w r t) (0, (x, w, v, r, t)) _ _ _ _ dL_act_556 (ht.trans (by simp only [f_act_521, if_neg c4])) hP hS hg
  · refine lv_aload_n hx hb dL_act_532 rfl (lv_at hl 0 rfl) ?_
    refine lv_iload_n hx hb dL_act_533 rfl (lv_at hl 2 rfl) ?_
    suffices K : ∀ (v8 : Int32), ∀ (H : Heap) (locs : List Loc) (ls : Array Slot), v8 = (if p1 = 0 then (200 : Int32) * p2 else p0) → va_P D vwCl (cKick h aw av kr kt q x w v r t) H → va_S A s.heap H locs → s.heap.size + 0 ≤ H.size → lv_has ls 6 [(0, .ref h)] → W p l e RM_L_act s m args below meth c H locs 0 0 Q (F0 m 546 ls [.int v8, .ref h]) by
      refine lv_if_eq (tgt := 541) hx hb dL_act_534 (by decide) (fun c7 => ?_) (fun c7 => ?_)
      · refine lv_sipush (v := 200) hx hb dL_act_541 (by decide) ?_
        refine lv_iload_n hx hb dL_act_544 rfl (lv_at hl 3 rfl) ?_
        refine lv_imul hx hb dL_act_545 ?_
        exact K ((200 : Int32) * p2) H locs ls (by simp only [if_pos c7]) hP hS hg (lv_sub hl [0] rfl)
      · refine lv_iload_n hx hb dL_act_537 rfl (lv_at hl 1 rfl) ?_
        refine lv_goto (tgt := 546) hx hb dL_act_538 (by decide) ?_
        exact K p0 H locs ls (by simp only [if_neg c7]) hP hS hg (lv_sub hl [0] rfl)
    intro v8 H locs ls hvv8 hP hS hg hl
    subst hvv8
    refine kWg_i (C := fun (u9 : WS) => cKick h aw av kr kt q x u9 v r t) (wrun fx hSX (SZ.kept hSZ0 hS.2.1) (As := [.ref h, .int (if p1 = 0 then (200 : Int32) * p2 else p0)]) (rest := []) (c_L_strength l D q H.size h aw av kr kt x w v r t (if p1 = 0 then (200 : Int32) * p2 else p0) hstk) lk_L_114 ⟨Nat.le_of_ble_eq_true rfl, Nat.le_of_ble_eq_true rfl⟩ ⟨rfl, rfl⟩ hP (hD _ _ _ _ _) hS hA [0, 1, 2, 3, 4, 5, 6, 7, 8, 9, 10, 11, 12, 13] rfl rfl rfl hl.1 rfl (Nat.le_of_ble_eq_true rfl) dL_act_546 ⟨Nat.le_of_ble_eq_true rfl, Nat.le_of_ble_eq_true rfl⟩) hP (hD _ _ _ _ _) hS hA hg [0, 1, 2, 3, 4, 5, 6, 7, 8, 9, 10, 11, 12, 13] rfl (fun _ => rfl) (fun r11 n12 u9 H locs hw10 hP hS hg => ?_)
    have hP : va_P D vwCl (cKick h aw av kr kt q x u9 v r t) H := hP
    have hw10 : (f_L_strength w (if p1 = 0 then (200 : Int32) * p2 else p0)) = (n12, r11, u9) := hw10
    try simp only [hw10] at hok
    refine lv_goto (tgt := 556) hx hb dL_act_549 (by decide) ?_
    exact hret r11 ((0 + n12), (x, u9, v, r, t)) _ _ _ _ dL_act_556 (ht.trans (by first | (simp only [f_act_521, if_pos c4, hw10]; done) | (simp only [f_act_521, hw10]; simp only [if_pos c4]))) hP hS hg

def f_act_557 (N : Nat) (x : XS) (w : WS) (v : WS) (r : RS) (t : TS) (p0 : Int32) (p1 : Int32) (p2 : Int32) (p3 : Int32) (p4 : Int32) : Nat × Int32 × XS × WS × WS × RS × TS :=
  ((0 + (f_L_test x w t (if p1 = 0 then f_L_low (p0 >>> ((3 : Int32) &&& 31)) (2 : Int32) else p3) (if p1 = 0 then (1000 : Int32) + ((50 : Int32) * p2) else p0 >>> ((5 : Int32) &&& 31))).1), (f_L_test x w t (if p1 = 0 then f_L_low (p0 >>> ((3 : Int32) &&& 31)) (2 : Int32) else p3) (if p1 = 0 then (1000 : Int32) + ((50 : Int32) * p2) else p0 >>> ((5 : Int32) &&& 31))).2.1, x, ((f_L_test x w t (if p1 = 0 then f_L_low (p0 >>> ((3 : Int32) &&& 31)) (2 : Int32) else p3) (if p1 = 0 then (1000 : Int32) + ((50 : Int32) * p2) else p0 >>> ((5 : Int32) &&& 31))).2.2).1, v, r, ((f_L_test x w t (if p1 = 0 then f_L_low (p0 >>> ((3 : Int32) &&& 31)) (2 : Int32) else p3) (if p1 = 0 then (1000 : Int32) + ((50 : Int32) * p2) else p0 >>> ((5 : Int32) &&& 31))).2.2).2)

def ok_act_557 (N : Nat) (x : XS) (w : WS) (v : WS) (r : RS) (t : TS) (p0 : Int32) (p1 : Int32) (p2 : Int32) (p3 : Int32) (p4 : Int32) : Prop :=
  ((p1 = 0 → ((ok_L_low (p0 >>> ((3 : Int32) &&& 31)) (2 : Int32)) ∧ True)) ∧ (¬ p1 = 0 → True)) ∧ True

set_option maxRecDepth 100000 in
set_option maxHeartbeats 8000000 in
theorem c_act_557 {p : Program} {l : Launch} {e : Env} {s : State} {m : MethodId} {args : Array Value} {below : List Frame} {meth : Method} {c : Code} {H : Heap} {locs : List Loc} {Q : State → Prop} {D : va_G} {q : Nat → ClassId} {A : Nat → Prop} {ls : Array Slot} (h aw av : Nat) (kr kt : Nat → Nat) (x : XS) (w : WS) (v : WS) (r : RS) (t : TS) (p0 p1 p2 p3 p4 : Int32) (N : Nat) (hstk : l.stackTraces = false) (fx : FX p s m args c RL cL_act 6 D q) (hSX : SX s) (hSZ0 : SZ A s s.heap) (hA : ∀ a, s.heap.size ≤ a → A a) (hD : ∀ (x : XS) (w : WS) (v : WS) (r : RS) (t : TS), va_D A (cKick h aw av kr kt q x w v r t)) (hok : ok_act_557 N x w v r t p0 p1 p2 p3 p4)
    (hret : ∀ (rv : Int32) (u : Nat × XS × WS × WS × RS × TS) (pc : Nat) (H : Heap) (locs : List Loc) (ls : Array Slot), decode cL_act pc = .ok (.ireturn, 1) → f_act_557 N x w v r t p0 p1 p2 p3 p4 = (u.1, rv, u.2) → va_P D vwCl (cKick h aw av kr kt q u.2.1 u.2.2.1 u.2.2.2.1 u.2.2.2.2.1 u.2.2.2.2.2) H → va_S A s.heap H locs → s.heap.size + u.1 ≤ H.size → W p l e RM_L_act s m args below meth c H locs 1 6 Q (F0 m pc ls [.int rv]))
    (hP : va_P D vwCl (cKick h aw av kr kt q x w v r t) H) (hS : va_S A s.heap H locs) (hg : s.heap.size + 0 ≤ H.size) (hl : lv_has ls 6 [(0, .ref h), (1, .int p0), (2, .int p1), (3, .int p2), (4, .int p3), (5, .int p4)]) : W p l e RM_L_act s m args below meth c H locs 0 0 Q (F0 m 557 ls []) := by
  have hx := fx.1
  have hb := fx.2.1
  have ht : f_act_557 N x w v r t p0 p1 p2 p3 p4 = f_act_557 N x w v r t p0 p1 p2 p3 p4 := rfl
  simp only [ok_act_557] at hok
  refine lv_aload_n hx hb dL_act_557 rfl (lv_at hl 0 rfl) ?_
  refine lv_iload_n hx hb dL_act_558 rfl (lv_at hl 2 rfl) ?_
  obtain ⟨hokA, hok⟩ := hok
  suffices K : ∀ (v5 : Int32), ∀ (H : Heap) (locs : List Loc) (ls : Array Slot), v5 = (if p1 = 0 then f_L_low (p0 >>> ((3 : Int32) &&& 31)) (2 : Int32) else p3) → va_P D vwCl (cKick h aw av kr kt q x w v r t) H → va_S A s.heap H locs → s.heap.size + 0 ≤ H.size → lv_has ls 6 [(0, .ref h), (1, .int p0), (2, .int p1), (3, .int p2)] → W p l e RM_L_act s m args below meth c H locs 0 0 Q (F0 m 574 ls [.int v5, .ref h]) by
    have hok := hokA
    refine lv_if_eq (tgt := 567) hx hb dL_act_559 (by decide) (fun c1 => ?_) (fun c1 => ?_)
    · have hok := hok.1 c1
      refine lv_iload_n hx hb dL_act_567 rfl (lv_at hl 1 rfl) ?_
      refine lv_iconst (v := 3) hx hb dL_act_568 (by decide) ?_
      refine lv_ishr hx hb dL_act_569 ?_
      refine lv_iconst (v := 2) hx hb dL_act_570 (by decide) ?_
      obtain ⟨hk2, hok⟩ := hok
      refine kRg_i (runS fx (As := [.int (p0 >>> ((3 : Int32) &&& 31)), .int (2 : Int32)]) (rest := [.ref h]) (c_L_low l D q H.size (p0 >>> ((3 : Int32) &&& 31)) (2 : Int32) hk2) lk_L_89 ⟨Nat.le_of_ble_eq_true rfl, Nat.le_of_ble_eq_true rfl⟩ ⟨rfl, rfl⟩ hP (hD _ _ _ _ _) [] rfl rfl rfl hl.1 rfl (Nat.le_of_ble_eq_true rfl) dL_act_571 ⟨Nat.zero_le _, Nat.zero_le _⟩) hP hS hg (fun r3 _ H locs hr4 hP hS hg => ?_)
      subst hr4
      exact K (f_L_low (p0 >>> ((3 : Int32) &&& 31)) (2 : Int32)) H locs ls (by simp only [if_pos c1]) hP hS hg (lv_sub hl [0, 1, 2, 3] rfl)
    · have hok := hok.2 c1
      refine lv_iload hx hb dL_act_562 (lv_at hl 4 rfl) ?_
      refine lv_goto (tgt := 574) hx hb dL_act_564 (by decide) ?_
      exact K p3 H locs ls (by simp only [if_neg c1]) hP hS hg (lv_sub hl [0, 1, 2, 3] rfl)
  intro v5 H locs ls hvv5 hP hS hg hl
  subst hvv5
  refine lv_iload_n hx hb dL_act_574 rfl (lv_at hl 2 rfl) ?_
  suffices K : ∀ (v7 : Int32), ∀ (H : Heap) (locs : List Loc) (ls : Array Slot), v7 = (if p1 = 0 then (1000 : Int32) + ((50 : Int32) * p2) else p0 >>> ((5 : Int32) &&& 31)) → va_P D vwCl (cKick h aw av kr kt q x w v r t) H → va_S A s.heap H locs → s.heap.size + 0 ≤ H.size → lv_has ls 6 [(0, .ref h)] → W p l e RM_L_act s m args below meth c H locs 0 0 Q (F0 m 592 ls [.int v7, .int (if p1 = 0 then f_L_low (p0 >>> ((3 : Int32) &&& 31)) (2 : Int32) else p3), .ref h]) by
    refine lv_if_eq (tgt := 584) hx hb dL_act_575 (by decide) (fun c6 => ?_) (fun c6 => ?_)
    · refine lv_sipush (v := 1000) hx hb dL_act_584 (by decide) ?_
      refine lv_bipush (v := 50) hx hb dL_act_587 (by decide) ?_
      refine lv_iload_n hx hb dL_act_589 rfl (lv_at hl 3 rfl) ?_
      refine lv_imul hx hb dL_act_590 ?_
      refine lv_iadd hx hb dL_act_591 ?_
      exact K ((1000 : Int32) + ((50 : Int32) * p2)) H locs ls (by simp only [if_pos c6]) hP hS hg (lv_sub hl [0] rfl)
    · refine lv_iload_n hx hb dL_act_578 rfl (lv_at hl 1 rfl) ?_
      refine lv_iconst (v := 5) hx hb dL_act_579 (by decide) ?_
      refine lv_ishr hx hb dL_act_580 ?_
      refine lv_goto (tgt := 592) hx hb dL_act_581 (by decide) ?_
      exact K (p0 >>> ((5 : Int32) &&& 31)) H locs ls (by simp only [if_neg c6]) hP hS hg (lv_sub hl [0] rfl)
  intro v7 H locs ls hvv7 hP hS hg hl
  subst hvv7
  refine kWg_i (C := fun (u9 : WS × TS) => cKick h aw av kr kt q x u9.1 v r u9.2) (wrun fx hSX (SZ.kept hSZ0 hS.2.1) (As := [.ref h, .int (if p1 = 0 then f_L_low (p0 >>> ((3 : Int32) &&& 31)) (2 : Int32) else p3), .int (if p1 = 0 then (1000 : Int32) + ((50 : Int32) * p2) else p0 >>> ((5 : Int32) &&& 31))]) (rest := []) (c_L_test l D q H.size h aw av kr kt x w v r t (if p1 = 0 then f_L_low (p0 >>> ((3 : Int32) &&& 31)) (2 : Int32) else p3) (if p1 = 0 then (1000 : Int32) + ((50 : Int32) * p2) else p0 >>> ((5 : Int32) &&& 31)) hstk) lk_L_119 ⟨Nat.le_of_ble_eq_true rfl, Nat.le_of_ble_eq_true rfl⟩ ⟨rfl, rfl⟩ hP (hD _ _ _ _ _) hS hA [0, 1, 2, 3, 4, 5, 6, 7, 8, 9, 10, 11, 12, 13] rfl rfl rfl hl.1 rfl (Nat.le_of_ble_eq_true rfl) dL_act_592 ⟨Nat.le_of_ble_eq_true rfl, Nat.le_of_ble_eq_true rfl⟩) hP (hD _ _ _ _ _) hS hA hg [0, 1, 2, 3, 4, 5, 6, 7, 8, 9, 10, 11, 12, 13] rfl (fun _ => rfl) (fun r10 n11 u8 H locs hw9 hP hS hg => ?_)
  have hP : va_P D vwCl (cKick h aw av kr kt q x u8.1 v r u8.2) H := hP
  have hw9 : (f_L_test x w t (if p1 = 0 then f_L_low (p0 >>> ((3 : Int32) &&& 31)) (2 : Int32) else p3) (if p1 = 0 then (1000 : Int32) + ((50 : Int32) * p2) else p0 >>> ((5 : Int32) &&& 31))) = (n11, r10, u8) := hw9
  try simp only [hw9] at hok
  exact hret r10 ((0 + n11), (x, u8.1, v, r, u8.2)) _ _ _ _ dL_act_595 (ht.trans (by simp only [f_act_557, hw9])) hP hS hg
