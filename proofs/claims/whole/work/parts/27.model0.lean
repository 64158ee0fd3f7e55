section BLK
variable {p : Program} {l : Launch} {e : Env} {R : Room} {s : State} {m : MethodId} {args : Array Value} {below : List Frame} {meth : Method} {c : Code} {locs : List Loc} {H : Heap} {cells slots : Nat} {Q : State → Prop}
variable {D : va_G} {q : Nat → ClassId} {A : Nat → Prop} {H0 : Heap} {nL : Nat} {ls : Array Slot} {rest : List Value}
set_option maxRecDepth 100000 in
set_option maxHeartbeats 8000000 in
theorem blk_0 {X : va_W} {a : Nat} (fx : FX p s m args c RX4 cX4_init nL D q) (hP : va_P D vwCl (X ++ [aI q a 50 (fun _ => 0)]) H) (hD : ∀ f, va_D A (X ++ [aI q a 50 f])) (hS : va_S A H0 H locs)
    (kk : ∀ (f : Nat → Int32) (H1 : Heap) (locs1 : List Loc), (∀ j : Nat, j < 50 → f j = 100) → va_P D vwCl (X ++ [aI q a 50 f]) H1 → va_S A H0 H1 locs1 → W p l e R s m args below meth c H1 locs1 cells slots Q (F0 m 303 ls (.ref a :: rest))) : W p l e R s m args below meth c H locs cells slots Q (F0 m 9 ls (.ref a :: rest)) := by
  have hx := fx.1
  have hb := fx.2.1
  have hf : ∀ j : Nat, j < 0 → (fun _ => 0 : Nat → Int32) j = 100 := fun j hj => absurd hj (Nat.not_lt_zero j)
  refine lv_dup hx hb dX4_init_9 rfl ?_
  refine lv_iconst (v := 0) hx hb dX4_init_10 (by decide) ?_
  refine lv_bipush (v := 100) hx hb dX4_init_11 (by decide) ?_
  refine st_app fx hP hD hS (k := 0) (by unfold vp_in; decide) (by decide) hf dX4_init_13 (fun f H locs hf hP hS => ?_)
  refine lv_dup hx hb dX4_init_14 rfl ?_
  refine lv_iconst (v := 1) hx hb dX4_init_15 (by decide) ?_
  refine lv_bipush (v := 100) hx hb dX4_init_16 (by decide) ?_
  refine st_app fx hP hD hS (k := 1) (by unfold vp_in; decide) (by decide) hf dX4_init_18 (fun f H locs hf hP hS => ?_)
  refine lv_dup hx hb dX4_init_19 rfl ?_
  refine lv_iconst (v := 2) hx hb dX4_init_20 (by decide) ?_
  refine lv_bipush (v := 100) hx hb dX4_init_21 (by decide) ?_
  refine st_app fx hP hD hS (k := 2) (by unfold vp_in; decide) (by decide) hf dX4_init_23 (fun f H locs hf hP hS => ?_)
  refine lv_dup hx hb dX4_init_24 rfl ?_
  refine lv_iconst (v := 3) hx hb dX4_init_25 (by decide) ?_
  refine lv_bipush (v := 100) hx hb dX4_init_26 (by decide) ?_
  refine st_app fx hP hD hS (k := 3) (by unfold vp_in; decide) (by decide) hf dX4_init_28 (fun f H locs hf hP hS => ?_)
  refine lv_dup hx hb dX4_init_29 rfl ?_
  refine lv_iconst (v := 4) hx hb dX4_init_30 (by decide) ?_
  refine lv_bipush (v := 100) hx hb dX4_init_31 (by decide) ?_
  refine st_app fx hP hD hS (k := 4) (by unfold vp_in; decide) (by decide) hf dX4_init_33 (fun f H locs hf hP hS => ?_)
  refine lv_dup hx hb dX4_init_34 rfl ?_
  refine lv_iconst (v := 5) hx hb dX4_init_35 (by decide) ?_
  refine lv_bipush (v := 100) hx hb dX4_init_36 (by decide) ?_
  refine st_app fx hP hD hS (k := 5) (by unfold vp_in; decide) (by decide) hf dX4_init_38 (fun f H locs hf hP hS => ?_)
  refine lv_dup hx hb dX4_init_39 rfl ?_
  refine lv_bipush (v := 6) hx hb dX4_init_40 (by decide) ?_
  refine lv_bipush (v := 100) hx hb dX4_init_42 (by decide) ?_
  refine st_app fx hP hD hS (k := 6) (by unfold vp_in; decide) (by decide) hf dX4_init_44 (fun f H locs hf hP hS => ?_)
  refine lv_dup hx hb dX4_init_45 rfl ?_
  refine lv_bipush (v := 7) hx hb dX4_init_46 (by decide) ?_
  refine lv_bipush (v := 100) hx hb dX4_init_48 (by decide) ?_
  refine st_app fx hP hD hS (k := 7) (by unfold vp_in; decide) (by decide) hf dX4_init_50 (fun f H locs hf hP hS => ?_)
  refine lv_dup hx hb dX4_init_51 rfl ?_
  refine lv_bipush (v := 8) hx hb dX4_init_52 (by decide) ?_
  refine lv_bipush (v := 100) hx hb dX4_init_54 (by decide) ?_
  refine st_app fx hP hD hS (k := 8) (by unfold vp_in; decide) (by decide) hf dX4_init_56 (fun f H locs hf hP hS => ?_)
  refine lv_dup hx hb dX4_init_57 rfl ?_
  refine lv_bipush (v := 9) hx hb dX4_init_58 (by decide) ?_
  refine lv_bipush (v := 100) hx hb dX4_init_60 (by decide) ?_
  refine st_app fx hP hD hS (k := 9) (by unfold vp_in; decide) (by decide) hf dX4_init_62 (fun f H locs hf hP hS => ?_)
  refine lv_dup hx hb dX4_init_63 rfl ?_
  refine lv_bipush (v := 10) hx hb dX4_init_64 (by decide) ?_
  refine lv_bipush (v := 100) hx hb dX4_init_66 (by decide) ?_
  refine st_app fx hP hD hS (k := 10) (by unfold vp_in; decide) (by decide) hf dX4_init_68 (fun f H locs hf hP hS => ?_)
  refine lv_dup hx hb dX4_init_69 rfl ?_
  refine lv_bipush (v := 11) hx hb dX4_init_70 (by decide) ?_
  refine lv_bipush (v := 100) hx hb dX4_init_72 (by decide) ?_
  refine st_app fx hP hD hS (k := 11) (by unfold vp_in; decide) (by decide) hf dX4_init_74 (fun f H locs hf hP hS => ?_)
  refine lv_dup hx hb dX4_init_75 rfl ?_
  refine lv_bipush (v := 12) hx hb dX4_init_76 (by decide) ?_
  refine lv_bipush (v := 100) hx hb dX4_init_78 (by decide) ?_
  refine st_app fx hP hD hS (k := 12) (by unfold vp_in; decide) (by decide) hf dX4_init_80 (fun f H locs hf hP hS => ?_)
  refine lv_dup hx hb dX4_init_81 rfl ?_
  refine lv_bipush (v := 13) hx hb dX4_init_82 (by decide) ?_
  refine lv_bipush (v := 100) hx hb dX4_init_84 (by decide) ?_
  refine st_app fx hP hD hS (k := 13) (by unfold vp_in; decide) (by decide) hf dX4_init_86 (fun f H locs hf hP hS => ?_)
  refine lv_dup hx hb dX4_init_87 rfl ?_
  refine lv_bipush (v := 14) hx hb dX4_init_88 (by decide) ?_
  refine lv_bipush (v := 100) hx hb dX4_init_90 (by decide) ?_
  refine st_app fx hP hD hS (k := 14) (by unfold vp_in; decide) (by decide) hf dX4_init_92 (fun f H locs hf hP hS => ?_)
  refine lv_dup hx hb dX4_init_93 rfl ?_
  refine lv_bipush (v := 15) hx hb dX4_init_94 (by decide) ?_
  refine lv_bipush (v := 100) hx hb dX4_init_96 (by decide) ?_
  refine st_app fx hP hD hS (k := 15) (by unfold vp_in; decide) (by decide) hf dX4_init_98 (fun f H locs hf hP hS => ?_)
  refine lv_dup hx hb dX4_init_99 rfl ?_
  refine lv_bipush (v := 16) hx hb dX4_init_100 (by decide) ?_
  refine lv_bipush (v := 100) hx hb dX4_init_102 (by decide) ?_
  refine st_app fx hP hD hS (k := 16) (by unfold vp_in; decide) (by decide) hf dX4_init_104 (fun f H locs hf hP hS => ?_)
  refine lv_dup hx hb dX4_init_105 rfl ?_
  refine lv_bipush (v := 17) hx hb dX4_init_106 (by decide) ?_
  refine lv_bipush (v := 100) hx hb dX4_init_108 (by decide) ?_
  refine st_app fx hP hD hS (k := 17) (by unfold vp_in; decide) (by decide) hf dX4_init_110 (fun f H locs hf hP hS => ?_)
  refine lv_dup hx hb dX4_init_111 rfl ?_
  refine lv_bipush (v := 18) hx hb dX4_init_112 (by decide) ?_
  refine lv_bipush (v := 100) hx hb dX4_init_114 (by decide) ?_
  refine st_app fx hP hD hS (k := 18) (by unfold vp_in; decide) (by decide) hf dX4_init_116 (fun f H locs hf hP hS => ?_)
  refine lv_dup hx hb dX4_init_117 rfl ?_
  refine lv_bipush (v := 19) hx hb dX4_init_118 (by decide) ?_
  refine lv_bipush (v := 100) hx hb dX4_init_120 (by decide) ?_
  refine st_app fx hP hD hS (k := 19) (by unfold vp_in; decide) (by decide) hf dX4_init_122 (fun f H locs hf hP hS => ?_)
  refine lv_dup hx hb dX4_init_123 rfl ?_
  refine lv_bipush (v := 20) hx hb dX4_init_124 (by decide) ?_
  refine lv_bipush (v := 100) hx hb dX4_init_126 (by decide) ?_
  refine st_app fx hP hD hS (k := 20) (by unfold vp_in; decide) (by decide) hf dX4_init_128 (fun f H locs hf hP hS => ?_)
  refine lv_dup hx hb dX4_init_129 rfl ?_
  refine lv_bipush (v := 21) hx hb dX4_init_130 (by decide) ?_
  refine lv_bipush (v := 100) hx hb dX4_init_132 (by decide) ?_
  refine st_app fx hP hD hS (k := 21) (by unfold vp_in; decide) (by decide) hf dX4_init_134 (fun f H locs hf hP hS => ?_)
  refine lv_dup hx hb dX4_init_135 rfl ?_
  refine lv_bipush (v := 22) hx hb dX4_init_136 (by decide) ?_
  refine lv_bipush (v := 100) hx hb dX4_init_138 (by decide) ?_
  refine st_app fx hP hD hS (k := 22) (by unfold vp_in; decide) (by decide) hf dX4_init_140 (fun f H locs hf hP hS => ?_)
  refine lv_dup hx hb dX4_init_141 rfl ?_
  refine lv_bipush (v := 23) hx hb dX4_init_142 (by decide) ?_
  refine lv_bipush (v := 100) hx hb dX4_init_144 (by decide) ?_
  refine st_app fx hP hD hS (k := 23) (by unfold vp_in; decide) (by decide) hf dX4_init_146 (fun f H locs hf hP hS => ?_)
  refine lv_dup hx hb dX4_init_147 rfl ?_
  refine lv_bipush (v := 24) hx hb dX4_init_148 (by decide) ?_
  refine lv_bipush (v := 100) hx hb dX4_init_150 (by decide) ?_
  refine st_app fx hP hD hS (k := 24) (by unfold vp_in; decide) (by decide) hf dX4_init_152 (fun f H locs hf hP hS => ?_)
  refine lv_dup hx hb dX4_init_153 rfl ?_
  refine lv_bipush (v := 25) hx hb dX4_init_154 (by decide) ?_
  refine lv_bipush (v := 100) hx hb dX4_init_156 (by decide) ?_
  refine st_app fx hP hD hS (k := 25) (by unfold vp_in; decide) (by decide) hf dX4_init_158 (fun f H locs hf hP hS => ?_)
  refine lv_dup hx hb dX4_init_159 rfl ?_
  refine lv_bipush (v := 26) hx hb dX4_init_160 (by decide) ?_
  refine lv_bipush (v := 100) hx hb dX4_init_162 (by decide) ?_
  refine st_app fx hP hD hS (k := 26) (by unfold vp_in; decide) (by decide) hf dX4_init_164 (fun f H locs hf hP hS => ?_)
  refine lv_dup hx hb dX4_init_165 rfl ?_
  refine lv_bipush (v := 27) hx hb dX4_init_166 (by decide) ?_
  refine lv_bipush (v := 100) hx hb dX4_init_168 (by decide) ?_
  refine st_app fx hP hD hS (k := 27) (by unfold vp_in; decide) (by decide) hf dX4_init_170 (fun f H locs hf hP hS => ?_)
  refine lv_dup hx hb dX4_init_171 rfl ?_
  refine lv_bipush (v := 28) hx hb dX4_init_172 (by decide) ?_
  refine lv_bipush (v := 100) hx hb dX4_init_174 (by decide) ?_
  refine st_app fx hP hD hS (k := 28) (by unfold vp_in; decide) (by decide) hf dX4_init_176 (fun f H locs hf hP hS => ?_)
  refine lv_dup hx hb dX4_init_177 rfl ?_
  refine lv_bipush (v := 29) hx hb dX4_init_178 (by decide) ?_
  refine lv_bipush (v := 100) hx hb dX4_init_180 (by decide) ?_
  refine st_app fx hP hD hS (k := 29) (by unfold vp_in; decide) (by decide) hf dX4_init_182 (fun f H locs hf hP hS => ?_)
  refine lv_dup hx hb dX4_init_183 rfl ?_
  refine lv_bipush (v := 30) hx hb dX4_init_184 (by decide) ?_
  refine lv_bipush (v := 100) hx hb dX4_init_186 (by decide) ?_
  refine st_app fx hP hD hS (k := 30) (by unfold vp_in; decide) (by decide) hf dX4_init_188 (fun f H locs hf hP hS => ?_)
  refine lv_dup hx hb dX4_init_189 rfl ?_
  refine lv_bipush (v := 31) hx hb dX4_init_190 (by decide) ?_
  refine lv_bipush (v := 100) hx hb dX4_init_192 (by decide) ?_
  refine st_app fx hP hD hS (k := 31) (by unfold vp_in; decide) (by decide) hf dX4_init_194 (fun f H locs hf hP hS => ?_)
  refine lv_dup hx hb dX4_init_195 rfl ?_
  refine lv_bipush (v := 32) hx hb dX4_init_196 (by decide) ?_
  refine lv_bipush (v := 100) hx hb dX4_init_198 (by decide) ?_
  refine st_app fx hP hD hS (k := 32) (by unfold vp_in; decide) (by decide) hf dX4_init_200 (fun f H locs hf hP hS => ?_)
  refine lv_dup hx hb dX4_init_201 rfl ?_
  refine lv_bipush (v := 33) hx hb dX4_init_202 (by decide) ?_
  refine lv_bipush (v := 100) hx hb dX4_init_204 (by decide) ?_
  refine st_app fx hP hD hS (k := 33) (by unfold vp_in; decide) (by decide) hf dX4_init_206 (fun f H locs hf hP hS => ?_)
  refine lv_dup hx hb dX4_init_207 rfl ?_
  refine lv_bipush (v := 34) hx hb dX4_init_208 (by decide) ?_
  refine lv_bipush (v := 100) hx hb dX4_init_210 (by decide) ?_
  refine st_app fx hP hD hS (k := 34) (by unfold vp_in; decide) (by decide) hf dX4_init_212 (fun f H locs hf hP hS => ?_)
  refine lv_dup hx hb dX4_init_213 rfl ?_
  refine lv_bipush (v := 35) hx hb dX4_init_214 (by decide) ?_
  refine lv_bipush (v := 100) hx hb dX4_init_216 (by decide) ?_
  refine st_app fx hP hD hS (k := 35) (by unfold vp_in; decide) (by decide) hf dX4_init_218 (fun f H locs hf hP hS => ?_)
  refine lv_dup hx hb dX4_init_219 rfl ?_
  refine lv_bipush (v := 36) hx hb dX4_init_220 (by decide) ?_
  refine lv_bipush (v := 100) hx hb dX4_init_222 (by decide) ?_
  refine st_app fx hP hD hS (k := 36) (by unfold vp_in; decide) (by decide) hf dX4_init_224 (fun f H locs hf hP hS => ?_)
  refine lv_dup hx hb dX4_init_225 rfl ?_
  refine lv_bipush (v := 37) hx hb dX4_init_226 (by decide) ?_
  refine lv_bipush (v := 100) hx hb dX4_init_228 (by decide) ?_
  refine st_app fx hP hD hS (k := 37) (by unfold vp_in; decide) (by decide) hf dX4_init_230 (fun f H locs hf hP hS => ?_)
  refine lv_dup hx hb dX4_init_231 rfl ?_
  refine lv_bipush (v := 38) hx hb dX4_init_232 (by decide) ?_
  refine lv_bipush (v := 100) hx hb dX4_init_234 (by decide) ?_
  refine st_app fx hP hD hS (k := 38) (by unfold vp_in; decide) (by decide) hf dX4_init_236 (fun f H locs hf hP hS => ?_)
  refine lv_dup hx hb dX4_init_237 rfl ?_
  refine lv_bipush (v := 39) hx hb dX4_init_238 (by decide) ?_
  refine lv_bipush (v := 100) hx hb dX4_init_240 (by decide) ?_
  refine st_app fx hP hD hS (k := 39) (by unfold vp_in; decide) (by decide) hf dX4_init_242 (fun f H locs hf hP hS => ?_)
  refine lv_dup hx hb dX4_init_243 rfl ?_
  refine lv_bipush (v := 40) hx hb dX4_init_244 (by decide) ?_
  refine lv_bipush (v := 100) hx hb dX4_init_246 (by decide) ?_
  refine st_app fx hP hD hS (k := 40) (by unfold vp_in; decide) (by decide) hf dX4_init_248 (fun f H locs hf hP hS => ?_)
  refine lv_dup hx hb dX4_init_249 rfl ?_
  refine lv_bipush (v := 41) hx hb dX4_init_250 (by decide) ?_
  refine lv_bipush (v := 100) hx hb dX4_init_252 (by decide) ?_
  refine st_app fx hP hD hS (k := 41) (by unfold vp_in; decide) (by decide) hf dX4_init_254 (fun f H locs hf hP hS => ?_)
  refine lv_dup hx hb dX4_init_255 rfl ?_
  refine lv_bipush (v := 42) hx hb dX4_init_256 (by decide) ?_
  refine lv_bipush (v := 100) hx hb dX4_init_258 (by decide) ?_
  refine st_app fx hP hD hS (k := 42) (by unfold vp_in; decide) (by decide) hf dX4_init_260 (fun f H locs hf hP hS => ?_)
  refine lv_dup hx hb dX4_init_261 rfl ?_
  refine lv_bipush (v := 43) hx hb dX4_init_262 (by decide) ?_
  refine lv_bipush (v := 100) hx hb dX4_init_264 (by decide) ?_
  refine st_app fx hP hD hS (k := 43) (by unfold vp_in; decide) (by decide) hf dX4_init_266 (fun f H locs hf hP hS => ?_)
  refine lv_dup hx hb dX4_init_267 rfl ?_
  refine lv_bipush (v := 44) hx hb dX4_init_268 (by decide) ?_
  refine lv_bipush (v := 100) hx hb dX4_init_270 (by decide) ?_
  refine st_app fx hP hD hS (k := 44) (by unfold vp_in; decide) (by decide) hf dX4_init_272 (fun f H locs hf hP hS => ?_)
  refine lv_dup hx hb dX4_init_273 rfl ?_
  refine lv_bipush (v := 45) hx hb dX4_init_274 (by decide) ?_
  refine lv_bipush (v := 100) hx hb dX4_init_276 (by decide) ?_
  refine st_app fx hP hD hS (k := 45) (by unfold vp_in; decide) (by decide) hf dX4_init_278 (fun f H locs hf hP hS => ?_)
  refine lv_dup hx hb dX4_init_279 rfl ?_
  refine lv_bipush (v := 46) hx hb dX4_init_280 (by decide) ?_
  refine lv_bipush (v := 100) hx hb dX4_init_282 (by decide) ?_
  refine st_app fx hP hD hS (k := 46) (by unfold vp_in; decide) (by decide) hf dX4_init_284 (fun f H locs hf hP hS => ?_)
  refine lv_dup hx hb dX4_init_285 rfl ?_
  refine lv_bipush (v := 47) hx hb dX4_init_286 (by decide) ?_
  refine lv_bipush (v := 100) hx hb dX4_init_288 (by decide) ?_
  refine st_app fx hP hD hS (k := 47) (by unfold vp_in; decide) (by decide) hf dX4_init_290 (fun f H locs hf hP hS => ?_)
  refine lv_dup hx hb dX4_init_291 rfl ?_
  refine lv_bipush (v := 48) hx hb dX4_init_292 (by decide) ?_
  refine lv_bipush (v := 100) hx hb dX4_init_294 (by decide) ?_
  refine st_app fx hP hD hS (k := 48) (by unfold vp_in; decide) (by decide) hf dX4_init_296 (fun f H locs hf hP hS => ?_)
  refine lv_dup hx hb dX4_init_297 rfl ?_
  refine lv_bipush (v := 49) hx hb dX4_init_298 (by decide) ?_
  refine lv_bipush (v := 100) hx hb dX4_init_300 (by decide) ?_
  refine st_app fx hP hD hS (k := 49) (by unfold vp_in; decide) (by decide) hf dX4_init_302 (fun f H locs hf hP hS => ?_)
  exact kk _ H locs hf hP hS
set_option maxRecDepth 100000 in
set_option maxHeartbeats 8000000 in
theorem blk_1 {X : va_W} {a : Nat} (fx : FX p s m args c RX4 cX4_init nL D q) (hP : va_P D vwCl (X ++ [aI q a 50 (fun _ => 0)]) H) (hD : ∀ f, va_D A (X ++ [aI q a 50 f])) (hS : va_S A H0 H locs)
    (kk : ∀ (f : Nat → Int32) (H1 : Heap) (locs1 : List Loc), (∀ j : Nat, j < 50 → f j = 180) → va_P D vwCl (X ++ [aI q a 50 f]) H1 → va_S A H0 H1 locs1 → W p l e R s m args below meth c H1 locs1 cells slots Q (F0 m 655 ls (.ref a :: rest))) : W p l e R s m args below meth c H locs cells slots Q (F0 m 311 ls (.ref a :: rest)) := by
  have hx := fx.1
  have hb := fx.2.1
  have hf : ∀ j : Nat, j < 0 → (fun _ => 0 : Nat → Int32) j = 180 := fun j hj => absurd hj (Nat.not_lt_zero j)
  refine lv_dup hx hb dX4_init_311 rfl ?_
  refine lv_iconst (v := 0) hx hb dX4_init_312 (by decide) ?_
  refine lv_sipush (v := 180) hx hb dX4_init_313 (by decide) ?_
  refine st_app fx hP hD hS (k := 0) (by unfold vp_in; decide) (by decide) hf dX4_init_316 (fun f H locs hf hP hS => ?_)
  refine lv_dup hx hb dX4_init_317 rfl ?_
  refine lv_iconst (v := 1) hx hb dX4_init_318 (by decide) ?_
  refine lv_sipush (v := 180) hx hb dX4_init_319 (by decide) ?_
  refine st_app fx hP hD hS (k := 1) (by unfold vp_in; decide) (by decide) hf dX4_init_322 (fun f H locs hf hP hS => ?_)
  refine lv_dup hx hb dX4_init_323 rfl ?_
  refine lv_iconst (v := 2) hx hb dX4_init_324 (by decide) ?_
  refine lv_sipush (v := 180) hx hb dX4_init_325 (by decide) ?_
  refine st_app fx hP hD hS (k := 2) (by unfold vp_in; decide) (by decide) hf dX4_init_328 (fun f H locs hf hP hS => ?_)
  refine lv_dup hx hb dX4_init_329 rfl ?_
  refine lv_iconst (v := 3) hx hb dX4_init_330 (by decide) ?_
  refine lv_sipush (v := 180) hx hb dX4_init_331 (by decide) ?_
  refine st_app fx hP hD hS (k := 3) (by unfold vp_in; decide) (by decide) hf dX4_init_334 (fun f H locs hf hP hS => ?_)
  refine lv_dup hx hb dX4_init_335 rfl ?_
  refine lv_iconst (v := 4) hx hb dX4_init_336 (by decide) ?_
  refine lv_sipush (v := 180) hx hb dX4_init_337 (by decide) ?_
  refine st_app fx hP hD hS (k := 4) (by unfold vp_in; decide) (by decide) hf dX4_init_340 (fun f H locs hf hP hS => ?_)
  refine lv_dup hx hb dX4_init_341 rfl ?_
  refine lv_iconst (v := 5) hx hb dX4_init_342 (by decide) ?_
  refine lv_sipush (v := 180) hx hb dX4_init_343 (by decide) ?_
  refine st_app fx hP hD hS (k := 5) (by unfold vp_in; decide) (by decide) hf dX4_init_346 (fun f H locs hf hP hS => ?_)
  refine lv_dup hx hb dX4_init_347 rfl ?_
  refine lv_bipush (v := 6) hx hb dX4_init_348 (by decide) ?_
  refine lv_sipush (v := 180) hx hb dX4_init_350 (by decide) ?_
  refine st_app fx hP hD hS (k := 6) (by unfold vp_in; decide) (by decide) hf dX4_init_353 (fun f H locs hf hP hS => ?_)
  refine lv_dup hx hb dX4_init_354 rfl ?_
  refine lv_bipush (v := 7) hx hb dX4_init_355 (by decide) ?_
  refine lv_sipush (v := 180) hx hb dX4_init_357 (by decide) ?_
  refine st_app fx hP hD hS (k := 7) (by unfold vp_in; decide) (by decide) hf dX4_init_360 (fun f H locs hf hP hS => ?_)
  refine lv_dup hx hb dX4_init_361 rfl ?_
  refine lv_bipush (v := 8) hx hb dX4_init_362 (by decide) ?_
  refine lv_sipush (v := 180) hx hb dX4_init_364 (by decide) ?_
  refine st_app fx hP hD hS (k := 8) (by unfold vp_in; decide) (by decide) hf dX4_init_367 (fun f H locs hf hP hS => ?_)
  refine lv_dup hx hb dX4_init_368 rfl ?_
  refine lv_bipush (v := 9) hx hb dX4_init_369 (by decide) ?_
  refine lv_sipush (v := 180) hx hb dX4_init_371 (by decide) ?_
  refine st_app fx hP hD hS (k := 9) (by unfold vp_in; decide) (by decide) hf dX4_init_374 (fun f H locs hf hP hS => ?_)
  refine lv_dup hx hb dX4_init_375 rfl ?_
  refine lv_bipush (v := 10) hx hb dX4_init_376 (by decide) ?_
  refine lv_sipush (v := 180) hx hb dX4_init_378 (by decide) ?_
  refine st_app fx hP hD hS (k := 10) (by unfold vp_in; decide) (by decide) hf dX4_init_381 (fun f H locs hf hP hS => ?_)
  refine lv_dup hx hb dX4_init_382 rfl ?_
  refine lv_bipush (v := 11) hx hb dX4_init_383 (by decide) ?_
  refine lv_sipush (v := 180) hx hb dX4_init_385 (by decide) ?_
  refine st_app fx hP hD hS (k := 11) (by unfold vp_in; decide) (by decide) hf dX4_init_388 (fun f H locs hf hP hS => ?_)
  refine lv_dup hx hb dX4_init_389 rfl ?_
  refine lv_bipush (v := 12) hx hb dX4_init_390 (by decide) ?_
  refine lv_sipush (v := 180) hx hb dX4_init_392 (by decide) ?_
  refine st_app fx hP hD hS (k := 12) (by unfold vp_in; decide) (by decide) hf dX4_init_395 (fun f H locs hf hP hS => ?_)
  refine lv_dup hx hb dX4_init_396 rfl ?_
  refine lv_bipush (v := 13) hx hb dX4_init_397 (by decide) ?_
  refine lv_sipush (v := 180) hx hb dX4_init_399 (by decide) ?_
  refine st_app fx hP hD hS (k := 13) (by unfold vp_in; decide) (by decide) hf dX4_init_402 (fun f H locs hf hP hS => ?_)
  refine lv_dup hx hb dX4_init_403 rfl ?_
  refine lv_bipush (v := 14) hx hb dX4_init_404 (by decide) ?_
  refine lv_sipush (v := 180) hx hb dX4_init_406 (by decide) ?_
  refine st_app fx hP hD hS (k := 14) (by unfold vp_in; decide) (by decide) hf dX4_init_409 (fun f H locs hf hP hS => ?_)
  refine lv_dup hx hb dX4_init_410 rfl ?_
  refine lv_bipush (v := 15) hx hb dX4_init_411 (by decide) ?_
  refine lv_sipush (v := 180) hx hb dX4_init_413 (by decide) ?_
  refine st_app fx hP hD hS (k := 15) (by unfold vp_in; decide) (by decide) hf dX4_init_416 (fun f H locs hf hP hS => ?_)
  refine lv_dup hx hb dX4_init_417 rfl ?_
  refine lv_bipush (v := 16) hx hb dX4_init_418 (by decide) ?_
  refine lv_sipush (v := 180) hx hb dX4_init_420 (by decide) ?_
  refine st_app fx hP hD hS (k := 16) (by unfold vp_in; decide) (by decide) hf dX4_init_423 (fun f H locs hf hP hS => ?_)
  refine lv_dup hx hb dX4_init_424 rfl ?_
  refine lv_bipush (v := 17) hx hb dX4_init_425 (by decide) ?_
  refine lv_sipush (v := 180) hx hb dX4_init_427 (by decide) ?_
  refine st_app fx hP hD hS (k := 17) (by unfold vp_in; decide) (by decide) hf dX4_init_430 (fun f H locs hf hP hS => ?_)
  refine lv_dup hx hb dX4_init_431 rfl ?_
  refine lv_bipush (v := 18) hx hb dX4_init_432 (by decide) ?_
  refine lv_sipush (v := 180) hx hb dX4_init_434 (by decide) ?_
  refine st_app fx hP hD hS (k := 18) (by unfold vp_in; decide) (by decide) hf dX4_init_437 (fun f H locs hf hP hS => ?_)
  refine lv_dup hx hb dX4_init_438 rfl ?_
  refine lv_bipush (v := 19) hx hb dX4_init_439 (by decide) ?_
  refine lv_sipush (v := 180) hx hb dX4_init_441 (by decide) ?_
  refine st_app fx hP hD hS (k := 19) (by unfold vp_in; decide) (by decide) hf dX4_init_444 (fun f H locs hf hP hS => ?_)
  refine lv_dup hx hb dX4_init_445 rfl ?_
  refine lv_bipush (v := 20) hx hb dX4_init_446 (by decide) ?_
  refine lv_sipush (v := 180) hx hb dX4_init_448 (by decide) ?_
  refine st_app fx hP hD hS (k := 20) (by unfold vp_in; decide) (by decide) hf dX4_init_451 (fun f H locs hf hP hS => ?_)
  refine lv_dup hx hb dX4_init_452 rfl ?_
  refine lv_bipush (v := 21) hx hb dX4_init_453 (by decide) ?_
  refine lv_sipush (v := 180) hx hb dX4_init_455 (by decide) ?_
  refine st_app fx hP hD hS (k := 21) (by unfold vp_in; decide) (by decide) hf dX4_init_458 (fun f H locs hf hP hS => ?_)
  refine lv_dup hx hb dX4_init_459 rfl ?_
  refine lv_bipush (v := 22) hx hb dX4_init_460 (by decide) ?_
  refine lv_sipush (v := 180) hx hb dX4_init_462 (by decide) ?_
  refine st_app fx hP hD hS (k := 22) (by unfold vp_in; decide) (by decide) hf dX4_init_465 (fun f H locs hf hP hS => ?_)
  refine lv_dup hx hb dX4_init_466 rfl ?_
  refine lv_bipush (v := 23) hx hb dX4_init_467 (by decide) ?_
  refine lv_sipush (v := 180) hx hb dX4_init_469 (by decide) ?_
  refine st_app fx hP hD hS (k := 23) (by unfold vp_in; decide) (by decide) hf dX4_init_472 (fun f H locs hf hP hS => ?_)
  refine lv_dup hx hb dX4_init_473 rfl ?_
  refine lv_bipush (v := 24) hx hb dX4_init_474 (by decide) ?_
  refine lv_sipush (v := 180) hx hb dX4_init_476 (by decide) ?_
  refine st_app fx hP hD hS (k := 24) (by unfold vp_in; decide) (by decide) hf dX4_init_479 (fun f H locs hf hP hS => ?_)
  refine lv_dup hx hb dX4_init_480 rfl ?_
  refine lv_bipush (v := 25) hx hb dX4_init_481 (by decide) ?_
  refine lv_sipush (v := 180) hx hb dX4_init_483 (by decide) ?_
  refine st_app fx hP hD hS (k := 25) (by unfold vp_in; decide) (by decide) hf dX4_init_486 (fun f H locs hf hP hS => ?_)
  refine lv_dup hx hb dX4_init_487 rfl ?_
  refine lv_bipush (v := 26) hx hb dX4_init_488 (by decide) ?_
  refine lv_sipush (v := 180) hx hb dX4_init_490 (by decide) ?_
  refine st_app fx hP hD hS (k := 26) (by unfold vp_in; decide) (by decide) hf dX4_init_493 (fun f H locs hf hP hS => ?_)
  refine lv_dup hx hb dX4_init_494 rfl ?_
  refine lv_bipush (v := 27) hx hb dX4_init_495 (by decide) ?_
  refine lv_sipush (v := 180) hx hb dX4_init_497 (by decide) ?_
  refine st_app fx hP hD hS (k := 27) (by unfold vp_in; decide) (by decide) hf dX4_init_500 (fun f H locs hf hP hS => ?_)
  refine lv_dup hx hb dX4_init_501 rfl ?_
  refine lv_bipush (v := 28) hx hb dX4_init_502 (by decide) ?_
  refine lv_sipush (v := 180) hx hb dX4_init_504 (by decide) ?_
  refine st_app fx hP hD hS (k := 28) (by unfold vp_in; decide) (by decide) hf dX4_init_507 (fun f H locs hf hP hS => ?_)
  refine lv_dup hx hb dX4_init_508 rfl ?_
  refine lv_bipush (v := 29) hx hb dX4_init_509 (by decide) ?_
  refine lv_sipush (v := 180) hx hb dX4_init_511 (by decide) ?_
  refine st_app fx hP hD hS (k := 29) (by unfold vp_in; decide) (by decide) hf dX4_init_514 (fun f H locs hf hP hS => ?_)
  refine lv_dup hx hb dX4_init_515 rfl ?_
  refine lv_bipush (v := 30) hx hb dX4_init_516 (by decide) ?_
  refine lv_sipush (v := 180) hx hb dX4_init_518 (by decide) ?_
  refine st_app fx hP hD hS (k := 30) (by unfold vp_in; decide) (by decide) hf dX4_init_521 (fun f H locs hf hP hS => ?_)
  refine lv_dup hx hb dX4_init_522 rfl ?_
  refine lv_bipush (v := 31) hx hb dX4_init_523 (by decide) ?_
  refine lv_sipush (v := 180) hx hb dX4_init_525 (by decide) ?_
  refine st_app fx hP hD hS (k := 31) (by unfold vp_in; decide) (by decide) hf dX4_init_528 (fun f H locs hf hP hS => ?_)
  refine lv_dup hx hb dX4_init_529 rfl ?_
  refine lv_bipush (v := 32) hx hb dX4_init_530 (by decide) ?_
  refine lv_sipush (v := 180) hx hb dX4_init_532 (by decide) ?_
  refine st_app fx hP hD hS (k := 32) (by unfold vp_in; decide) (by decide) hf dX4_init_535 (fun f H locs hf hP hS => ?_)
  refine lv_dup hx hb dX4_init_536 rfl ?_
  refine lv_bipush (v := 33) hx hb dX4_init_537 (by decide) ?_
  refine lv_sipush (v := 180) hx hb dX4_init_539 (by decide) ?_
  refine st_app fx hP hD hS (k := 33) (by unfold vp_in; decide) (by decide) hf dX4_init_542 (fun f H locs hf hP hS => ?_)
  refine lv_dup hx hb dX4_init_543 rfl ?_
  refine lv_bipush (v := 34) hx hb dX4_init_544 (by decide) ?_
  refine lv_sipush (v := 180) hx hb dX4_init_546 (by decide) ?_
  refine st_app fx hP hD hS (k := 34) (by unfold vp_in; decide) (by decide) hf dX4_init_549 (fun f H locs hf hP hS => ?_)
  refine lv_dup hx hb dX4_init_550 rfl ?_
  refine lv_bipush (v := 35) hx hb dX4_init_551 (by decide) ?_
  refine lv_sipush (v := 180) hx hb dX4_init_553 (by decide) ?_
  refine st_app fx hP hD hS (k := 35) (by unfold vp_in; decide) (by decide) hf dX4_init_556 (fun f H locs hf hP hS => ?_)
  refine lv_dup hx hb dX4_init_557 rfl ?_
  refine lv_bipush (v := 36) hx hb dX4_init_558 (by decide) ?_
  refine lv_sipush (v := 180) hx hb dX4_init_560 (by decide) ?_
  refine st_app fx hP hD hS (k := 36) (by unfold vp_in; decide) (by decide) hf dX4_init_563 (fun f H locs hf hP hS => ?_)
  refine lv_dup hx hb dX4_init_564 rfl ?_
  refine lv_bipush (v := 37) hx hb dX4_init_565 (by decide) ?_
  refine lv_sipush (v := 180) hx hb dX4_init_567 (by decide) ?_
  refine st_app fx hP hD hS (k := 37) (by unfold vp_in; decide) (by decide) hf dX4_init_570 (fun f H locs hf hP hS => ?_)
  refine lv_dup hx hb dX4_init_571 rfl ?_
  refine lv_bipush (v := 38) hx hb dX4_init_572 (by decide) ?_
  refine lv_sipush (v := 180) hx hb dX4_init_574 (by decide) ?_
  refine st_app fx hP hD hS (k := 38) (by unfold vp_in; decide) (by decide) hf dX4_init_577 (fun f H locs hf hP hS => ?_)
  refine lv_dup hx hb dX4_init_578 rfl ?_
  refine lv_bipush (v := 39) hx hb dX4_init_579 (by decide) ?_
  refine lv_sipush (v := 180) hx hb dX4_init_581 (by decide) ?_
  refine st_app fx hP hD hS (k := 39) (by unfold vp_in; decide) (by decide) hf dX4_init_584 (fun f H locs hf hP hS => ?_)
  refine lv_dup hx hb dX4_init_585 rfl ?_
  refine lv_bipush (v := 40) hx hb dX4_init_586 (by decide) ?_
  refine lv_sipush (v := 180) hx hb dX4_init_588 (by decide) ?_
  refine st_app fx hP hD hS (k := 40) (by unfold vp_in; decide) (by decide) hf dX4_init_591 (fun f H locs hf hP hS => ?_)
  refine lv_dup hx hb dX4_init_592 rfl ?_
  refine lv_bipush (v := 41) hx hb dX4_init_593 (by decide) ?_
  refine lv_sipush (v := 180) hx hb dX4_init_595 (by decide) ?_
  refine st_app fx hP hD hS (k := 41) (by unfold vp_in; decide) (by decide) hf dX4_init_598 (fun f H locs hf hP hS => ?_)
  refine lv_dup hx hb dX4_init_599 rfl ?_
  refine lv_bipush (v := 42) hx hb dX4_init_600 (by decide) ?_
  refine lv_sipush (v := 180) hx hb dX4_init_602 (by decide) ?_
  refine st_app fx hP hD hS (k := 42) (by unfold vp_in; decide) (by decide) hf dX4_init_605 (fun f H locs hf hP hS => ?_)
  refine lv_dup hx hb dX4_init_606 rfl ?_
  refine lv_bipush (v := 43) hx hb dX4_init_607 (by decide) ?_
  refine lv_sipush (v := 180) hx hb dX4_init_609 (by decide) ?_
  refine st_app fx hP hD hS (k := 43) (by unfold vp_in; decide) (by decide) hf dX4_init_612 (fun f H locs hf hP hS => ?_)
  refine lv_dup hx hb dX4_init_613 rfl ?_
  refine lv_bipush (v := 44) hx hb dX4_init_614 (by decide) ?_
  refine lv_sipush (v := 180) hx hb dX4_init_616 (by decide) ?_
  refine st_app fx hP hD hS (k := 44) (by unfold vp_in; decide) (by decide) hf dX4_init_619 (fun f H locs hf hP hS => ?_)
  refine lv_dup hx hb dX4_init_620 rfl ?_
  refine lv_bipush (v := 45) hx hb dX4_init_621 (by decide) ?_
  refine lv_sipush (v := 180) hx hb dX4_init_623 (by decide) ?_
  refine st_app fx hP hD hS (k := 45) (by unfold vp_in; decide) (by decide) hf dX4_init_626 (fun f H locs hf hP hS => ?_)
  refine lv_dup hx hb dX4_init_627 rfl ?_
  refine lv_bipush (v := 46) hx hb dX4_init_628 (by decide) ?_
  refine lv_sipush (v := 180) hx hb dX4_init_630 (by decide) ?_
  refine st_app fx hP hD hS (k := 46) (by unfold vp_in; decide) (by decide) hf dX4_init_633 (fun f H locs hf hP hS => ?_)
  refine lv_dup hx hb dX4_init_634 rfl ?_
  refine lv_bipush (v := 47) hx hb dX4_init_635 (by decide) ?_
  refine lv_sipush (v := 180) hx hb dX4_init_637 (by decide) ?_
  refine st_app fx hP hD hS (k := 47) (by unfold vp_in; decide) (by decide) hf dX4_init_640 (fun f H locs hf hP hS => ?_)
  refine lv_dup hx hb dX4_init_641 rfl ?_
  refine lv_bipush (v := 48) hx hb dX4_init_642 (by decide) ?_
  refine lv_sipush (v := 180) hx hb dX4_init_644 (by decide) ?_
  refine st_app fx hP hD hS (k := 48) (by unfold vp_in; decide) (by decide) hf dX4_init_647 (fun f H locs hf hP hS => ?_)
  refine lv_dup hx hb dX4_init_648 rfl ?_
  refine lv_bipush (v := 49) hx hb dX4_init_649 (by decide) ?_
  refine lv_sipush (v := 180) hx hb dX4_init_651 (by decide) ?_
  refine st_app fx hP hD hS (k := 49) (by unfold vp_in; decide) (by decide) hf dX4_init_654 (fun f H locs hf hP hS => ?_)
  exact kk _ H locs hf hP hS
set_option maxRecDepth 100000 in
set_option maxHeartbeats 8000000 in
theorem blk_2 {X : va_W} {a : Nat} (fx : FX p s m args c RX4 cX4_init nL D q) (hP : va_P D vwCl (X ++ [aI q a 50 (fun _ => 0)]) H) (hD : ∀ f, va_D A (X ++ [aI q a 50 f])) (hS : va_S A H0 H locs)
    (kk : ∀ (f : Nat → Int32) (H1 : Heap) (locs1 : List Loc), (∀ j : Nat, j < 50 → f j = 10) → va_P D vwCl (X ++ [aI q a 50 f]) H1 → va_S A H0 H1 locs1 → W p l e R s m args below meth c H1 locs1 cells slots Q (F0 m 957 ls (.ref a :: rest))) : W p l e R s m args below meth c H locs cells slots Q (F0 m 663 ls (.ref a :: rest)) := by
  have hx := fx.1
  have hb := fx.2.1
  have hf : ∀ j : Nat, j < 0 → (fun _ => 0 : Nat → Int32) j = 10 := fun j hj => absurd hj (Nat.not_lt_zero j)
  refine lv_dup hx hb dX4_init_663 rfl ?_
  refine lv_iconst (v := 0) hx hb dX4_init_664 (by decide) ?_
  refine lv_bipush (v := 10) hx hb dX4_init_665 (by decide) ?_
  refine st_app fx hP hD hS (k := 0) (by unfold vp_in; decide) (by decide) hf dX4_init_667 (fun f H locs hf hP hS => ?_)
  refine lv_dup hx hb dX4_init_668 rfl ?_
  refine lv_iconst (v := 1) hx hb dX4_init_669 (by decide) ?_
  refine lv_bipush (v := 10) hx hb dX4_init_670 (by decide) ?_
  refine st_app fx hP hD hS (k := 1) (by unfold vp_in; decide) (by decide) hf dX4_init_672 (fun f H locs hf hP hS => ?_)
  refine lv_dup hx hb dX4_init_673 rfl ?_
  refine lv_iconst (v := 2) hx hb dX4_init_674 (by decide) ?_
  refine lv_bipush (v := 10) hx hb dX4_init_675 (by decide) ?_
  refine st_app fx hP hD hS (k := 2) (by unfold vp_in; decide) (by decide) hf dX4_init_677 (fun f H locs hf hP hS => ?_)
  refine lv_dup hx hb dX4_init_678 rfl ?_
  refine lv_iconst (v := 3) hx hb dX4_init_679 (by decide) ?_
  refine lv_bipush (v := 10) hx hb dX4_init_680 (by decide) ?_
  refine st_app fx hP hD hS (k := 3) (by unfold vp_in; decide) (by decide) hf dX4_init_682 (fun f H locs hf hP hS => ?_)
  refine lv_dup hx hb dX4_init_683 rfl ?_
  refine lv_iconst (v := 4) hx hb dX4_init_684 (by decide) ?_
  refine lv_bipush (v := 10) hx hb dX4_init_685 (by decide) ?_
  refine st_app fx hP hD hS (k := 4) (by unfold vp_in; decide) (by decide) hf dX4_init_687 (fun f H locs hf hP hS => ?_)
  refine lv_dup hx hb dX4_init_688 rfl ?_
  refine lv_iconst (v := 5) hx hb dX4_init_689 (by decide) ?_
  refine lv_bipush (v := 10) hx hb dX4_init_690 (by decide) ?_
  refine st_app fx hP hD hS (k := 5) (by unfold vp_in; decide) (by decide) hf dX4_init_692 (fun f H locs hf hP hS => ?_)
  refine lv_dup hx hb dX4_init_693 rfl ?_
  refine lv_bipush (v := 6) hx hb dX4_init_694 (by decide) ?_
  refine lv_bipush (v := 10) hx hb dX4_init_696 (by decide) ?_
  refine st_app fx hP hD hS (k := 6) (by unfold vp_in; decide) (by decide) hf dX4_init_698 (fun f H locs hf hP hS => ?_)
  refine lv_dup hx hb dX4_init_699 rfl ?_
  refine lv_bipush (v := 7) hx hb dX4_init_700 (by decide) ?_
  refine lv_bipush (v := 10) hx hb dX4_init_702 (by decide) ?_
  refine st_app fx hP hD hS (k := 7) (by unfold vp_in; decide) (by decide) hf dX4_init_704 (fun f H locs hf hP hS => ?_)
  refine lv_dup hx hb dX4_init_705 rfl ?_
  refine lv_bipush (v := 8) hx hb dX4_init_706 (by decide) ?_
  refine lv_bipush (v := 10) hx hb dX4_init_708 (by decide) ?_
  refine st_app fx hP hD hS (k := 8) (by unfold vp_in; decide) (by decide) hf dX4_init_710 (fun f H locs hf hP hS => ?_)
  refine lv_dup hx hb dX4_init_711 rfl ?_
  refine lv_bipush (v := 9) hx hb dX4_init_712 (by decide) ?_
  refine lv_bipush (v := 10) hx hb dX4_init_714 (by decide) ?_
  refine st_app fx hP hD hS (k := 9) (by unfold vp_in; decide) (by decide) hf dX4_init_716 (fun f H locs hf hP hS => ?_)
  refine lv_dup hx hb dX4_init_717 rfl ?_
  refine lv_bipush (v := 10) hx hb dX4_init_718 (by decide) ?_
  refine lv_bipush (v := 10) hx hb dX4_init_720 (by decide) ?_
  refine st_app fx hP hD hS (k := 10) (by unfold vp_in; decide) (by decide) hf dX4_init_722 (fun f H locs hf hP hS => ?_)
  refine lv_dup hx hb dX4_init_723 rfl ?_
  refine lv_bipush (v := 11) hx hb dX4_init_724 (by decide) ?_
  refine lv_bipush (v := 10) hx hb dX4_init_726 (by decide) ?_
  refine st_app fx hP hD hS (k := 11) (by unfold vp_in; decide) (by decide) hf dX4_init_728 (fun f H locs hf hP hS => ?_)
  refine lv_dup hx hb dX4_init_729 rfl ?_
  refine lv_bipush (v := 12) hx hb dX4_init_730 (by decide) ?_
  refine lv_bipush (v := 10) hx hb dX4_init_732 (by decide) ?_
  refine st_app fx hP hD hS (k := 12) (by unfold vp_in; decide) (by decide) hf dX4_init_734 (fun f H locs hf hP hS => ?_)
  refine lv_dup hx hb dX4_init_735 rfl ?_
  refine lv_bipush (v := 13) hx hb dX4_init_736 (by decide) ?_
  refine lv_bipush (v := 10) hx hb dX4_init_738 (by decide) ?_
  refine st_app fx hP hD hS (k := 13) (by unfold vp_in; decide) (by decide) hf dX4_init_740 (fun f H locs hf hP hS => ?_)
  refine lv_dup hx hb dX4_init_741 rfl ?_
  refine lv_bipush (v := 14) hx hb dX4_init_742 (by decide) ?_
  refine lv_bipush (v := 10) hx hb dX4_init_744 (by decide) ?_
  refine st_app fx hP hD hS (k := 14) (by unfold vp_in; decide) (by decide) hf dX4_init_746 (fun f H locs hf hP hS => ?_)
  refine lv_dup hx hb dX4_init_747 rfl ?_
  refine lv_bipush (v := 15) hx hb dX4_init_748 (by decide) ?_
  refine lv_bipush (v := 10) hx hb dX4_init_750 (by decide) ?_
  refine st_app fx hP hD hS (k := 15) (by unfold vp_in; decide) (by decide) hf dX4_init_752 (fun f H locs hf hP hS => ?_)
  refine lv_dup hx hb dX4_init_753 rfl ?_
  refine lv_bipush (v := 16) hx hb dX4_init_754 (by decide) ?_
  refine lv_bipush (v := 10) hx hb dX4_init_756 (by decide) ?_
  refine st_app fx hP hD hS (k := 16) (by unfold vp_in; decide) (by decide) hf dX4_init_758 (fun f H locs hf hP hS => ?_)
  refine lv_dup hx hb dX4_init_759 rfl ?_
  refine lv_bipush (v := 17) hx hb dX4_init_760 (by decide) ?_
  refine lv_bipush (v := 10) hx hb dX4_init_762 (by decide) ?_
  refine st_app fx hP hD hS (k := 17) (by unfold vp_in; decide) (by decide) hf dX4_init_764 (fun f H locs hf hP hS => ?_)
  refine lv_dup hx hb dX4_init_765 rfl ?_
  refine lv_bipush (v := 18) hx hb dX4_init_766 (by decide) ?_
  refine lv_bipush (v := 10) hx hb dX4_init_768 (by decide) ?_
  refine st_app fx hP hD hS (k := 18) (by unfold vp_in; decide) (by decide) hf dX4_init_770 (fun f H locs hf hP hS => ?_)
  refine lv_dup hx hb dX4_init_771 rfl ?_
  refine lv_bipush (v := 19) hx hb dX4_init_772 (by decide) ?_
  refine lv_bipush (v := 10) hx hb dX4_init_774 (by decide) ?_
  refine st_app fx hP hD hS (k := 19) (by unfold vp_in; decide) (by decide) hf dX4_init_776 (fun f H locs hf hP hS => ?_)
  refine lv_dup hx hb dX4_init_777 rfl ?_
  refine lv_bipush (v := 20) hx hb dX4_init_778 (by decide) ?_
  refine lv_bipush (v := 10) hx hb dX4_init_780 (by decide) ?_
  refine st_app fx hP hD hS (k := 20) (by unfold vp_in; decide) (by decide) hf dX4_init_782 (fun f H locs hf hP hS => ?_)
  refine lv_dup hx hb dX4_init_783 rfl ?_
  refine lv_bipush (v := 21) hx hb dX4_init_784 (by decide) ?_
  refine lv_bipush (v := 10) hx hb dX4_init_786 (by decide) ?_
  refine st_app fx hP hD hS (k := 21) (by unfold vp_in; decide) (by decide) hf dX4_init_788 (fun f H locs hf hP hS => ?_)
  refine lv_dup hx hb dX4_init_789 rfl ?_
  refine lv_bipush (v := 22) hx hb dX4_init_790 (by decide) ?_
  refine lv_bipush (v := 10) hx hb dX4_init_792 (by decide) ?_
  refine st_app fx hP hD hS (k := 22) (by unfold vp_in; decide) (by decide) hf dX4_init_794 (fun f H locs hf hP hS => ?_)
  refine lv_dup hx hb dX4_init_795 rfl ?_
  refine lv_bipush (v := 23) hx hb dX4_init_796 (by decide) ?_
  refine lv_bipush (v := 10) hx hb dX4_init_798 (by decide) ?_
  refine st_app fx hP hD hS (k := 23) (by unfold vp_in; decide) (by decide) hf dX4_init_800 (fun f H locs hf hP hS => ?_)
  refine lv_dup hx hb dX4_init_801 rfl ?_
  refine lv_bipush (v := 24) hx hb dX4_init_802 (by decide) ?_
  refine lv_bipush (v := 10) hx hb dX4_init_804 (by decide) ?_
  refine st_app fx hP hD hS (k := 24) (by unfold vp_in; decide) (by decide) hf dX4_init_806 (fun f H locs hf hP hS => ?_)
  refine lv_dup hx hb dX4_init_807 rfl ?_
  refine lv_bipush (v := 25) hx hb dX4_init_808 (by decide) ?_
  refine lv_bipush (v := 10) hx hb dX4_init_810 (by decide) ?_
  refine st_app fx hP hD hS (k := 25) (by unfold vp_in; decide) (by decide) hf dX4_init_812 (fun f H locs hf hP hS => ?_)
  refine lv_dup hx hb dX4_init_813 rfl ?_
  refine lv_bipush (v := 26) hx hb dX4_init_814 (by decide) ?_
  refine lv_bipush (v := 10) hx hb dX4_init_816 (by decide) ?_
  refine st_app fx hP hD hS (k := 26) (by unfold vp_in; decide) (by decide) hf dX4_init_818 (fun f H locs hf hP hS => ?_)
  refine lv_dup hx hb dX4_init_819 rfl ?_
  refine lv_bipush (v := 27) hx hb dX4_init_820 (by decide) ?_
  refine lv_bipush (v := 10) hx hb dX4_init_822 (by decide) ?_
  refine st_app fx hP hD hS (k := 27) (by unfold vp_in; decide) (by decide) hf dX4_init_824 (fun f H locs hf hP hS => ?_)
  refine lv_dup hx hb dX4_init_825 rfl ?_
  refine lv_bipush (v := 28) hx hb dX4_init_826 (by decide) ?_
  refine lv_bipush (v := 10) hx hb dX4_init_828 (by decide) ?_
  refine st_app fx hP hD hS (k := 28) (by unfold vp_in; decide) (by decide) hf dX4_init_830 (fun f H locs hf hP hS => ?_)
  refine lv_dup hx hb dX4_init_831 rfl ?_
  refine lv_bipush (v := 29) hx hb dX4_init_832 (by decide) ?_
  refine lv_bipush (v := 10) hx hb dX4_init_834 (by decide) ?_
  refine st_app fx hP hD hS (k := 29) (by unfold vp_in; decide) (by decide) hf dX4_init_836 (fun f H locs hf hP hS => ?_)
  refine lv_dup hx hb dX4_init_837 rfl ?_
  refine lv_bipush (v := 30) hx hb dX4_init_838 (by decide) ?_
  refine lv_bipush (v := 10) hx hb dX4_init_840 (by decide) ?_
  refine st_app fx hP hD hS (k := 30) (by unfold vp_in; decide) (by decide) hf dX4_init_842 (fun f H locs hf hP hS => ?_)
  refine lv_dup hx hb dX4_init_843 rfl ?_
  refine lv_bipush (v := 31) hx hb dX4_init_844 (by decide) ?_
  refine lv_bipush (v := 10) hx hb dX4_init_846 (by decide) ?_
  refine st_app fx hP hD hS (k := 31) (by unfold vp_in; decide) (by decide) hf dX4_init_848 (fun f H locs hf hP hS => ?_)
  refine lv_dup hx hb dX4_init_849 rfl ?_
  refine lv_bipush (v := 32) hx hb dX4_init_850 (by decide) ?_
  refine lv_bipush (v := 10) hx hb dX4_init_852 (by decide) ?_
  refine st_app fx hP hD hS (k := 32) (by unfold vp_in; decide) (by decide) hf dX4_init_854 (fun f H locs hf hP hS => ?_)
  refine lv_dup hx hb dX4_init_855 rfl ?_
  refine lv_bipush (v := 33) hx hb dX4_init_856 (by decide) ?_
  refine lv_bipush (v := 10) hx hb dX4_init_858 (by decide) ?_
  refine st_app fx hP hD hS (k := 33) (by unfold vp_in; decide) (by decide) hf dX4_init_860 (fun f H locs hf hP hS => ?_)
  refine lv_dup hx hb dX4_init_861 rfl ?_
  refine lv_bipush (v := 34) hx hb dX4_init_862 (by decide) ?_
  refine lv_bipush (v := 10) hx hb dX4_init_864 (by decide) ?_
  refine st_app fx hP hD hS (k := 34) (by unfold vp_in; decide) (by decide) hf dX4_init_866 (fun f H locs hf hP hS => ?_)
  refine lv_dup hx hb dX4_init_867 rfl ?_
  refine lv_bipush (v := 35) hx hb dX4_init_868 (by decide) ?_
  refine lv_bipush (v := 10) hx hb dX4_init_870 (by decide) ?_
  refine st_app fx hP hD hS (k := 35) (by unfold vp_in; decide) (by decide) hf dX4_init_872 (fun f H locs hf hP hS => ?_)
  refine lv_dup hx hb dX4_init_873 rfl ?_
  refine lv_bipush (v := 36) hx hb dX4_init_874 (by decide) ?_
  refine lv_bipush (v := 10) hx hb dX4_init_876 (by decide) ?_
  refine st_app fx hP hD hS (k := 36) (by unfold vp_in; decide) (by decide) hf dX4_init_878 (fun f H locs hf hP hS => ?_)
  refine lv_dup hx hb dX4_init_879 rfl ?_
  refine lv_bipush (v := 37) hx hb dX4_init_880 (by decide) ?_
  refine lv_bipush (v := 10) hx hb dX4_init_882 (by decide) ?_
  refine st_app fx hP hD hS (k := 37) (by unfold vp_in; decide) (by decide) hf dX4_init_884 (fun f H locs hf hP hS => ?_)
  refine lv_dup hx hb dX4_init_885 rfl ?_
  refine lv_bipush (v := 38) hx hb dX4_init_886 (by decide) ?_
  refine lv_bipush (v := 10) hx hb dX4_init_888 (by decide) ?_
  refine st_app fx hP hD hS (k := 38) (by unfold vp_in; decide) (by decide) hf dX4_init_890 (fun f H locs hf hP hS => ?_)
  refine lv_dup hx hb dX4_init_891 rfl ?_
  refine lv_bipush (v := 39) hx hb dX4_init_892 (by decide) ?_
  refine lv_bipush (v := 10) hx hb dX4_init_894 (by decide) ?_
  refine st_app fx hP hD hS (k := 39) (by unfold vp_in; decide) (by decide) hf dX4_init_896 (fun f H locs hf hP hS => ?_)
  refine lv_dup hx hb dX4_init_897 rfl ?_
  refine lv_bipush (v := 40) hx hb dX4_init_898 (by decide) ?_
  refine lv_bipush (v := 10) hx hb dX4_init_900 (by decide) ?_
  refine st_app fx hP hD hS (k := 40) (by unfold vp_in; decide) (by decide) hf dX4_init_902 (fun f H locs hf hP hS => ?_)
  refine lv_dup hx hb dX4_init_903 rfl ?_
  refine lv_bipush (v := 41) hx hb dX4_init_904 (by decide) ?_
  refine lv_bipush (v := 10) hx hb dX4_init_906 (by decide) ?_
  refine st_app fx hP hD hS (k := 41) (by unfold vp_in; decide) (by decide) hf dX4_init_908 (fun f H locs hf hP hS => ?_)
  refine lv_dup hx hb dX4_init_909 rfl ?_
  refine lv_bipush (v := 42) hx hb dX4_init_910 (by decide) ?_
  refine lv_bipush (v := 10) hx hb dX4_init_912 (by decide) ?_
  refine st_app fx hP hD hS (k := 42) (by unfold vp_in; decide) (by decide) hf dX4_init_914 (fun f H locs hf hP hS => ?_)
  refine lv_dup hx hb dX4_init_915 rfl ?_
  refine lv_bipush (v := 43) hx hb dX4_init_916 (by decide) ?_
  refine lv_bipush (v := 10) hx hb dX4_init_918 (by decide) ?_
  refine st_app fx hP hD hS (k := 43) (by unfold vp_in; decide) (by decide) hf dX4_init_920 (fun f H locs hf hP hS => ?_)
  refine lv_dup hx hb dX4_init_921 rfl ?_
  refine lv_bipush (v := 44) hx hb dX4_init_922 (by decide) ?_
  refine lv_bipush (v := 10) hx hb dX4_init_924 (by decide) ?_
  refine st_app fx hP hD hS (k := 44) (by unfold vp_in; decide) (by decide) hf dX4_init_926 (fun f H locs hf hP hS => ?_)
  refine lv_dup hx hb dX4_init_927 rfl ?_
  refine lv_bipush (v := 45) hx hb dX4_init_928 (by decide) ?_
  refine lv_bipush (v := 10) hx hb dX4_init_930 (by decide) ?_
  refine st_app fx hP hD hS (k := 45) (by unfold vp_in; decide) (by decide) hf dX4_init_932 (fun f H locs hf hP hS => ?_)
  refine lv_dup hx hb dX4_init_933 rfl ?_
  refine lv_bipush (v := 46) hx hb dX4_init_934 (by decide) ?_
  refine lv_bipush (v := 10) hx hb dX4_init_936 (by decide) ?_
  refine st_app fx hP hD hS (k := 46) (by unfold vp_in; decide) (by decide) hf dX4_init_938 (fun f H locs hf hP hS => ?_)
  refine lv_dup hx hb dX4_init_939 rfl ?_
  refine lv_bipush (v := 47) hx hb dX4_init_940 (by decide) ?_
  refine lv_bipush (v := 10) hx hb dX4_init_942 (by decide) ?_
  refine st_app fx hP hD hS (k := 47) (by unfold vp_in; decide) (by decide) hf dX4_init_944 (fun f H locs hf hP hS => ?_)
  refine lv_dup hx hb dX4_init_945 rfl ?_
  refine lv_bipush (v := 48) hx hb dX4_init_946 (by decide) ?_
  refine lv_bipush (v := 10) hx hb dX4_init_948 (by decide) ?_
  refine st_app fx hP hD hS (k := 48) (by unfold vp_in; decide) (by decide) hf dX4_init_950 (fun f H locs hf hP hS => ?_)
  refine lv_dup hx hb dX4_init_951 rfl ?_
  refine lv_bipush (v := 49) hx hb dX4_init_952 (by decide) ?_
  refine lv_bipush (v := 10) hx hb dX4_init_954 (by decide) ?_
  refine st_app fx hP hD hS (k := 49) (by unfold vp_in; decide) (by decide) hf dX4_init_956 (fun f H locs hf hP hS => ?_)
  exact kk _ H locs hf hP hS
end BLK
/-- the model as it is made -/
def MInit (g : MS) : Prop := ∃ f0 f1 f2 : Nat → Int32, (∀ j : Nat, j < 50 → f0 j = 100) ∧ (∀ j : Nat, j < 50 → f1 j = 180) ∧ (∀ j : Nat, j < 50 → f2 j = 10) ∧ g = (0, f0, f1, f2, (fun _ => 0), 0, 0, (110 : Int32), 0, 0, 0, 0, 0, 0, 0, 0, 0, 0, (-1 : Int32), (10000 : Int32), 0, 0, 0, 0, (fun _ => 0), 0, (fun _ => 0), (fun _ => 0), (fun _ => 0), (fun _ => 0), (fun _ => 0))
def Bh_X4_init (D : va_G) (q : Nat → ClassId) (sz : Nat) (h : Nat) (H9 : Heap) : Prop := (fun H9 => ∃ (km : Nat → Nat) (g0 : MS), km 0 = h ∧ MInit g0 ∧ va_P D vwCl (cModel km q g0) H9 ∧ va_D (va_A ([(h, .inr (4, [.int 0, .null, .null, .null, .null, .int 0, .int 0, .int 0, .int 0, .int 0, .long 0, .int 0, .int 0, .int 0, .int 0, .long 0, .long 0, .int 0, .int 0, .int 0, .int 0, .int 0, .int 0, .int 0, .null, .int 0, .null, .null, .null, .null, .null]))]) sz) (cModel km q g0)) H9
abbrev RM_X4_init : Room := { frames := 1, cells := 10, slots := 462, locals := 20 }
set_option maxRecDepth 100000 in
set_option maxHeartbeats 8000000 in
theorem c_X4_init (l : Launch) (D : va_G) (q : Nat → ClassId) (sz : Nat) (h : Nat) : Met l yX4_init (Cond.code yX4_init cX4_init 1 none :: ALL) RM_X4_init (PC D q [.ref h] ([(h, .inr (4, [.int 0, .null, .null, .null, .null, .int 0, .int 0, .int 0, .int 0, .int 0, .long 0, .int 0, .int 0, .int 0, .int 0, .long 0, .long 0, .int 0, .int 0, .int 0, .int 0, .int 0, .int 0, .int 0, .null, .int 0, .null, .null, .null, .null, .null]))]) sz) (va_Qv (fun _ : Unit => True) (fun _ t9 => (Bh_X4_init D q sz h) t9.heap) (va_A ([(h, .inr (4, [.int 0, .null, .null, .null, .null, .int 0, .int 0, .int 0, .int 0, .int 0, .long 0, .int 0, .int 0, .int 0, .int 0, .long 0, .long 0, .int 0, .int 0, .int 0, .int 0, .int 0, .int 0, .int 0, .null, .int 0, .null, .null, .null, .null, .null]))]) sz)) 10 462 (va_A ([(h, .inr (4, [.int 0, .null, .null, .null, .null, .int 0, .int 0, .int 0, .int 0, .int 0, .long 0, .int 0, .int 0, .int 0, .int 0, .long 0, .long 0, .int 0, .int 0, .int 0, .int 0, .int 0, .int 0, .int 0, .null, .int 0, .null, .null, .null, .null, .null]))]) sz) := by
  refine en_c (Bh := Bh_X4_init D q sz h) (by decide +kernel) (Nat.le_of_ble_eq_true rfl) ?_
  intro p e s m args below meth c Q A H locs ls fx hin hD hA hP hS hl hret
  have hx := fx.1
  have hb := fx.2.1
  have hl : lv_has ls 1 [(0, .ref h)] := hl
  refine lv_aload_n hx hb dX4_init_0 rfl (lv_at hl 0 rfl) ?_
  refine W.objInit hx hb fx.2.2.2.1 (fx.2.2.2.2.1 _ mn_26) (fx.2.2.2.2.1 _ mn_5) (fx.2.2.2.2.1 _ mn_6) rfl (by rw [fx.2.2.1]; exact hl.1) rfl dX4_init_1 (Nat.le_of_ble_eq_true rfl) (Nat.le_of_ble_eq_true rfl) ?_
  refine W.eq (g2 := F0 m 4 ls []) rfl ?_
  refine lv_aload_n hx hb dX4_init_4 rfl (lv_at hl 0 rfl) ?_
  refine lv_bipush (v := 50) hx hb dX4_init_5 (by decide) ?_
  refine newI fx hP hD hS hA (N9 := 50) (by decide) (by decide) (Nat.le_of_ble_eq_true rfl) (Nat.le_of_ble_eq_true rfl) (Nat.le_of_ble_eq_true rfl) dX4_init_7 (fun a1 H hP hD hS => ?_)
  have hP : va_P D vwCl ([(h, .inr (4, [.int 0, .null, .null, .null, .null, .int 0, .int 0, .int 0, .int 0, .int 0, .long 0, .int 0, .int 0, .int 0, .int 0, .long 0, .long 0, .int 0, .int 0, .int 0, .int 0, .int 0, .int 0, .int 0, .null, .int 0, .null, .null, .null, .null, .null])), aI q a1 50 (fun _ => 0)]) H := hP
  have hD : va_D A ([(h, .inr (4, [.int 0, .null, .null, .null, .null, .int 0, .int 0, .int 0, .int 0, .int 0, .long 0, .int 0, .int 0, .int 0, .int 0, .long 0, .long 0, .int 0, .int 0, .int 0, .int 0, .int 0, .int 0, .int 0, .null, .int 0, .null, .null, .null, .null, .null])), aI q a1 50 (fun _ => 0)]) := hD
  refine W.widen (k := 1) (n := 50) (Nat.le_of_ble_eq_true rfl) (Nat.le_of_ble_eq_true rfl) ?_
  refine blk_0 (X := [(h, .inr (4, [.int 0, .null, .null, .null, .null, .int 0, .int 0, .int 0, .int 0, .int 0, .long 0, .int 0, .int 0, .int 0, .int 0, .long 0, .long 0, .int 0, .int 0, .int 0, .int 0, .int 0, .int 0, .int 0, .null, .int 0, .null, .null, .null, .null, .null]))]) fx hP (fun f => D_same (by rfl) hD) hS (fun f0 H locs hf0 hP hS => ?_)
  have hP : va_P D vwCl ([(h, .inr (4, [.int 0, .null, .null, .null, .null, .int 0, .int 0, .int 0, .int 0, .int 0, .long 0, .int 0, .int 0, .int 0, .int 0, .long 0, .long 0, .int 0, .int 0, .int 0, .int 0, .int 0, .int 0, .int 0, .null, .int 0, .null, .null, .null, .null, .null])), aI q a1 50 f0]) H := hP
  have hD : va_D A ([(h, .inr (4, [.int 0, .null, .null, .null, .null, .int 0, .int 0, .int 0, .int 0, .int 0, .long 0, .int 0, .int 0, .int 0, .int 0, .long 0, .long 0, .int 0, .int 0, .int 0, .int 0, .int 0, .int 0, .int 0, .null, .int 0, .null, .null, .null, .null, .null])), aI q a1 50 f0]) := D_same (by rfl) hD
  refine va_putF (D := D) (ci := 4) (v := .ref a1) (ty := .array .int) (C := RX4) (T := TX4) (N := 31) hx hb fx.2.2.2.2.1 inlX4 tyX4 tyX4_ok nmX4 fx.2.2.2.1 fx.2.2.2.2.2.1 hP hD hS 0 rfl rfl 1 (by decide) (fx.2.2.2.2.1 _ mm_267) (fun _ h9 => h9) rfl hin rfl (by decide +kernel) rfl rfl (Nat.le_of_ble_eq_true rfl) dX4_init_303 (fun H locs hP hD hS => ?_)
  have hP : va_P D vwCl ([(h, .inr (4, [.int 0, .ref a1, .null, .null, .null, .int 0, .int 0, .int 0, .int 0, .int 0, .long 0, .int 0, .int 0, .int 0, .int 0, .long 0, .long 0, .int 0, .int 0, .int 0, .int 0, .int 0, .int 0, .int 0, .null, .int 0, .null, .null, .null, .null, .null])), aI q a1 50 f0]) H := hP
  have hD : va_D A ([(h, .inr (4, [.int 0, .ref a1, .null, .null, .null, .int 0, .int 0, .int 0, .int 0, .int 0, .long 0, .int 0, .int 0, .int 0, .int 0, .long 0, .long 0, .int 0, .int 0, .int 0, .int 0, .int 0, .int 0, .int 0, .null, .int 0, .null, .null, .null, .null, .null])), aI q a1 50 f0]) := hD
  refine lv_aload_n hx hb dX4_init_306 rfl (lv_at hl 0 rfl) ?_
  refine lv_bipush (v := 50) hx hb dX4_init_307 (by decide) ?_
  refine newI fx hP hD hS hA (N9 := 50) (by decide) (by decide) (Nat.le_of_ble_eq_true rfl) (Nat.le_of_ble_eq_true rfl) (Nat.le_of_ble_eq_true rfl) dX4_init_309 (fun a2 H hP hD hS => ?_)
  have hP : va_P D vwCl ([(h, .inr (4, [.int 0, .ref a1, .null, .null, .null, .int 0, .int 0, .int 0, .int 0, .int 0, .long 0, .int 0, .int 0, .int 0, .int 0, .long 0, .long 0, .int 0, .int 0, .int 0, .int 0, .int 0, .int 0, .int 0, .null, .int 0, .null, .null, .null, .null, .null])), aI q a1 50 f0, aI q a2 50 (fun _ => 0)]) H := hP
  have hD : va_D A ([(h, .inr (4, [.int 0, .ref a1, .null, .null, .null, .int 0, .int 0, .int 0, .int 0, .int 0, .long 0, .int 0, .int 0, .int 0, .int 0, .long 0, .long 0, .int 0, .int 0, .int 0, .int 0, .int 0, .int 0, .int 0, .null, .int 0, .null, .null, .null, .null, .null])), aI q a1 50 f0, aI q a2 50 (fun _ => 0)]) := hD
  refine W.widen (k := 2) (n := 100) (Nat.le_of_ble_eq_true rfl) (Nat.le_of_ble_eq_true rfl) ?_
  refine blk_1 (X := [(h, .inr (4, [.int 0, .ref a1, .null, .null, .null, .int 0, .int 0, .int 0, .int 0, .int 0, .long 0, .int 0, .int 0, .int 0, .int 0, .long 0, .long 0, .int 0, .int 0, .int 0, .int 0, .int 0, .int 0, .int 0, .null, .int 0, .null, .null, .null, .null, .null])), aI q a1 50 f0]) fx hP (fun f => D_same (by rfl) hD) hS (fun f1 H locs hf1 hP hS => ?_)
  have hP : va_P D vwCl ([(h, .inr (4, [.int 0, .ref a1, .null, .null, .null, .int 0, .int 0, .int 0, .int 0, .int 0, .long 0, .int 0, .int 0, .int 0, .int 0, .long 0, .long 0, .int 0, .int 0, .int 0, .int 0, .int 0, .int 0, .int 0, .null, .int 0, .null, .null, .null, .null, .null])), aI q a1 50 f0, aI q a2 50 f1]) H := hP
  have hD : va_D A ([(h, .inr (4, [.int 0, .ref a1, .null, .null, .null, .int 0, .int 0, .int 0, .int 0, .int 0, .long 0, .int 0, .int 0, .int 0, .int 0, .long 0, .long 0, .int 0, .int 0, .int 0, .int 0, .int 0, .int 0, .int 0, .null, .int 0, .null, .null, .null, .null, .null])), aI q a1 50 f0, aI q a2 50 f1]) := D_same (by rfl) hD
  refine va_putF (D := D) (ci := 4) (v := .ref a2) (ty := .array .int) (C := RX4) (T := TX4) (N := 31) hx hb fx.2.2.2.2.1 inlX4 tyX4 tyX4_ok nmX4 fx.2.2.2.1 fx.2.2.2.2.2.1 hP hD hS 0 rfl rfl 2 (by decide) (fx.2.2.2.2.1 _ mm_272) (fun _ h9 => h9) rfl hin rfl (by decide +kernel) rfl rfl (Nat.le_of_ble_eq_true rfl) dX4_init_655 (fun H locs hP hD hS => ?_)
  have hP : va_P D vwCl ([(h, .inr (4, [.int 0, .ref a1, .ref a2, .null, .null, .int 0, .int 0, .int 0, .int 0, .int 0, .long 0, .int 0, .int 0, .int 0, .int 0, .long 0, .long 0, .int 0, .int 0, .int 0, .int 0, .int 0, .int 0, .int 0, .null, .int 0, .null, .null, .null, .null, .null])), aI q a1 50 f0, aI q a2 50 f1]) H := hP
  have hD : va_D A ([(h, .inr (4, [.int 0, .ref a1, .ref a2, .null, .null, .int 0, .int 0, .int 0, .int 0, .int 0, .long 0, .int 0, .int 0, .int 0, .int 0, .long 0, .long 0, .int 0, .int 0, .int 0, .int 0, .int 0, .int 0, .int 0, .null, .int 0, .null, .null, .null, .null, .null])), aI q a1 50 f0, aI q a2 50 f1]) := hD
  refine lv_aload_n hx hb dX4_init_658 rfl (lv_at hl 0 rfl) ?_
  refine lv_bipush (v := 50) hx hb dX4_init_659 (by decide) ?_
  refine newI fx hP hD hS hA (N9 := 50) (by decide) (by decide) (Nat.le_of_ble_eq_true rfl) (Nat.le_of_ble_eq_true rfl) (Nat.le_of_ble_eq_true rfl) dX4_init_661 (fun a3 H hP hD hS => ?_)
  have hP : va_P D vwCl ([(h, .inr (4, [.int 0, .ref a1, .ref a2, .null, .null, .int 0, .int 0, .int 0, .int 0, .int 0, .long 0, .int 0, .int 0, .int 0, .int 0, .long 0, .long 0, .int 0, .int 0, .int 0, .int 0, .int 0, .int 0, .int 0, .null, .int 0, .null, .null, .null, .null, .null])), aI q a1 50 f0, aI q a2 50 f1, aI q a3 50 (fun _ => 0)]) H := hP
  have hD : va_D A ([(h, .inr (4, [.int 0, .ref a1, .ref a2, .null, .null, .int 0, .int 0, .int 0, .int 0, .int 0, .long 0, .int 0, .int 0, .int 0, .int 0, .long 0, .long 0, .int 0, .int 0, .int 0, .int 0, .int 0, .int 0, .int 0, .null, .int 0, .null, .null, .null, .null, .null])), aI q a1 50 f0, aI q a2 50 f1, aI q a3 50 (fun _ => 0)]) := hD
  refine W.widen (k := 3) (n := 150) (Nat.le_of_ble_eq_true rfl) (Nat.le_of_ble_eq_true rfl) ?_
  refine blk_2 (X := [(h, .inr (4, [.int 0, .ref a1, .ref a2, .null, .null, .int 0, .int 0, .int 0, .int 0, .int 0, .long 0, .int 0, .int 0, .int 0, .int 0, .long 0, .long 0, .int 0, .int 0, .int 0, .int 0, .int 0, .int 0, .int 0, .null, .int 0, .null, .null, .null, .null, .null])), aI q a1 50 f0, aI q a2 50 f1]) fx hP (fun f => D_same (by rfl) hD) hS (fun f2 H locs hf2 hP hS => ?_)
  have hP : va_P D vwCl ([(h, .inr (4, [.int 0, .ref a1, .ref a2, .null, .null, .int 0, .int 0, .int 0, .int 0, .int 0, .long 0, .int 0, .int 0, .int 0, .int 0, .long 0, .long 0, .int 0, .int 0, .int 0, .int 0, .int 0, .int 0, .int 0, .null, .int 0, .null, .null, .null, .null, .null])), aI q a1 50 f0, aI q a2 50 f1, aI q a3 50 f2]) H := hP
  have hD : va_D A ([(h, .inr (4, [.int 0, .ref a1, .ref a2, .null, .null, .int 0, .int 0, .int 0, .int 0, .int 0, .long 0, .int 0, .int 0, .int 0, .int 0, .long 0, .long 0, .int 0, .int 0, .int 0, .int 0, .int 0, .int 0, .int 0, .null, .int 0, .null, .null, .null, .null, .null])), aI q a1 50 f0, aI q a2 50 f1, aI q a3 50 f2]) := D_same (by rfl) hD
  refine va_putF (D := D) (ci := 4) (v := .ref a3) (ty := .array .int) (C := RX4) (T := TX4) (N := 31) hx hb fx.2.2.2.2.1 inlX4 tyX4 tyX4_ok nmX4 fx.2.2.2.1 fx.2.2.2.2.2.1 hP hD hS 0 rfl rfl 3 (by decide) (fx.2.2.2.2.1 _ mm_281) (fun _ h9 => h9) rfl hin rfl (by decide +kernel) rfl rfl (Nat.le_of_ble_eq_true rfl) dX4_init_957 (fun H locs hP hD hS => ?_)
  have hP : va_P D vwCl ([(h, .inr (4, [.int 0, .ref a1, .ref a2, .ref a3, .null, .int 0, .int 0, .int 0, .int 0, .int 0, .long 0, .int 0, .int 0, .int 0, .int 0, .long 0, .long 0, .int 0, .int 0, .int 0, .int 0, .int 0, .int 0, .int 0, .null, .int 0, .null, .null, .null, .null, .null])), aI q a1 50 f0, aI q a2 50 f1, aI q a3 50 f2]) H := hP
  have hD : va_D A ([(h, .inr (4, [.int 0, .ref a1, .ref a2, .ref a3, .null, .int 0, .int 0, .int 0, .int 0, .int 0, .long 0, .int 0, .int 0, .int 0, .int 0, .long 0, .long 0, .int 0, .int 0, .int 0, .int 0, .int 0, .int 0, .int 0, .null, .int 0, .null, .null, .null, .null, .null])), aI q a1 50 f0, aI q a2 50 f1, aI q a3 50 f2]) := hD
  refine lv_aload_n hx hb dX4_init_960 rfl (lv_at hl 0 rfl) ?_
  refine lv_bipush (v := 50) hx hb dX4_init_961 (by decide) ?_
  refine newZ fx hP hD hS hA (N9 := 50) (by decide) (by decide) (Nat.le_of_ble_eq_true rfl) (Nat.le_of_ble_eq_true rfl) (Nat.le_of_ble_eq_true rfl) dX4_init_963 (fun a4 H hP hD hS => ?_)
  have hP : va_P D vwCl ([(h, .inr (4, [.int 0, .ref a1, .ref a2, .ref a3, .null, .int 0, .int 0, .int 0, .int 0, .int 0, .long 0, .int 0, .int 0, .int 0, .int 0, .long 0, .long 0, .int 0, .int 0, .int 0, .int 0, .int 0, .int 0, .int 0, .null, .int 0, .null, .null, .null, .null, .null])), aI q a1 50 f0, aI q a2 50 f1, aI q a3 50 f2, aZ q a4 50 (fun _ => 0)]) H := hP
  have hD : va_D A ([(h, .inr (4, [.int 0, .ref a1, .ref a2, .ref a3, .null, .int 0, .int 0, .int 0, .int 0, .int 0, .long 0, .int 0, .int 0, .int 0, .int 0, .long 0, .long 0, .int 0, .int 0, .int 0, .int 0, .int 0, .int 0, .int 0, .null, .int 0, .null, .null, .null, .null, .null])), aI q a1 50 f0, aI q a2 50 f1, aI q a3 50 f2, aZ q a4 50 (fun _ => 0)]) := hD
  refine W.widen (k := 4) (n := 200) (Nat.le_of_ble_eq_true rfl) (Nat.le_of_ble_eq_true rfl) ?_
  refine va_putF (D := D) (ci := 4) (v := .ref a4) (ty := .array .boolean) (C := RX4) (T := TX4) (N := 31) hx hb fx.2.2.2.2.1 inlX4 tyX4 tyX4_ok nmX4 fx.2.2.2.1 fx.2.2.2.2.2.1 hP hD hS 0 rfl rfl 4 (by decide) (fx.2.2.2.2.1 _ mm_282) (fun _ h9 => h9) rfl hin rfl (by decide +kernel) rfl rfl (Nat.le_of_ble_eq_true rfl) dX4_init_965 (fun H locs hP hD hS => ?_)
  have hP : va_P D vwCl ([(h, .inr (4, [.int 0, .ref a1, .ref a2, .ref a3, .ref a4, .int 0, .int 0, .int 0, .int 0, .int 0, .long 0, .int 0, .int 0, .int 0, .int 0, .long 0, .long 0, .int 0, .int 0, .int 0, .int 0, .int 0, .int 0, .int 0, .null, .int 0, .null, .null, .null, .null, .null])), aI q a1 50 f0, aI q a2 50 f1, aI q a3 50 f2, aZ q a4 50 (fun _ => 0)]) H := hP
  have hD : va_D A ([(h, .inr (4, [.int 0, .ref a1, .ref a2, .ref a3, .ref a4, .int 0, .int 0, .int 0, .int 0, .int 0, .long 0, .int 0, .int 0, .int 0, .int 0, .long 0, .long 0, .int 0, .int 0, .int 0, .int 0, .int 0, .int 0, .int 0, .null, .int 0, .null, .null, .null, .null, .null])), aI q a1 50 f0, aI q a2 50 f1, aI q a3 50 f2, aZ q a4 50 (fun _ => 0)]) := hD
  refine lv_aload_n hx hb dX4_init_968 rfl (lv_at hl 0 rfl) ?_
  refine lv_bipush (v := 110) hx hb dX4_init_969 (by decide) ?_
  refine va_put (D := D) (ci := 4) (v := .int (110 : Int32)) (ty := .int) (C := RX4) (T := TX4) (N := 31) hx hb fx.2.2.2.2.1 inlX4 tyX4 tyX4_ok nmX4 fx.2.2.2.1 fx.2.2.2.2.2.1 hP hD hS 0 rfl rfl 7 (by decide) (fx.2.2.2.2.1 _ mm_284) (fun _ h9 => h9) rfl (by decide +kernel) rfl rfl (Nat.le_of_ble_eq_true rfl) dX4_init_971 (fun H locs hP hD hS => ?_)
  have hP : va_P D vwCl ([(h, .inr (4, [.int 0, .ref a1, .ref a2, .ref a3, .ref a4, .int 0, .int 0, .int (110 : Int32), .int 0, .int 0, .long 0, .int 0, .int 0, .int 0, .int 0, .long 0, .long 0, .int 0, .int 0, .int 0, .int 0, .int 0, .int 0, .int 0, .null, .int 0, .null, .null, .null, .null, .null])), aI q a1 50 f0, aI q a2 50 f1, aI q a3 50 f2, aZ q a4 50 (fun _ => 0)]) H := hP
  have hD : va_D A ([(h, .inr (4, [.int 0, .ref a1, .ref a2, .ref a3, .ref a4, .int 0, .int 0, .int (110 : Int32), .int 0, .int 0, .long 0, .int 0, .int 0, .int 0, .int 0, .long 0, .long 0, .int 0, .int 0, .int 0, .int 0, .int 0, .int 0, .int 0, .null, .int 0, .null, .null, .null, .null, .null])), aI q a1 50 f0, aI q a2 50 f1, aI q a3 50 f2, aZ q a4 50 (fun _ => 0)]) := hD
  refine lv_aload_n hx hb dX4_init_974 rfl (lv_at hl 0 rfl) ?_
  refine lv_iconst (v := -1) hx hb dX4_init_975 (by decide) ?_
  refine va_put (D := D) (ci := 4) (v := .int (-1 : Int32)) (ty := .int) (C := RX4) (T := TX4) (N := 31) hx hb fx.2.2.2.2.1 inlX4 tyX4 tyX4_ok nmX4 fx.2.2.2.1 fx.2.2.2.2.2.1 hP hD hS 0 rfl rfl 18 (by decide) (fx.2.2.2.2.1 _ mm_364) (fun _ h9 => h9) rfl (by decide +kernel) rfl rfl (Nat.le_of_ble_eq_true rfl) dX4_init_976 (fun H locs hP hD hS => ?_)
  have hP : va_P D vwCl ([(h, .inr (4, [.int 0, .ref a1, .ref a2, .ref a3, .ref a4, .int 0, .int 0, .int (110 : Int32), .int 0, .int 0, .long 0, .int 0, .int 0, .int 0, .int 0, .long 0, .long 0, .int 0, .int (-1 : Int32), .int 0, .int 0, .int 0, .int 0, .int 0, .null, .int 0, .null, .null, .null, .null, .null])), aI q a1 50 f0, aI q a2 50 f1, aI q a3 50 f2, aZ q a4 50 (fun _ => 0)]) H := hP
  have hD : va_D A ([(h, .inr (4, [.int 0, .ref a1, .ref a2, .ref a3, .ref a4, .int 0, .int 0, .int (110 : Int32), .int 0, .int 0, .long 0, .int 0, .int 0, .int 0, .int 0, .long 0, .long 0, .int 0, .int (-1 : Int32), .int 0, .int 0, .int 0, .int 0, .int 0, .null, .int 0, .null, .null, .null, .null, .null])), aI q a1 50 f0, aI q a2 50 f1, aI q a3 50 f2, aZ q a4 50 (fun _ => 0)]) := hD
  refine lv_aload_n hx hb dX4_init_979 rfl (lv_at hl 0 rfl) ?_
  refine lv_sipush (v := 10000) hx hb dX4_init_980 (by decide) ?_
  refine va_put (D := D) (ci := 4) (v := .int (10000 : Int32)) (ty := .int) (C := RX4) (T := TX4) (N := 31) hx hb fx.2.2.2.2.1 inlX4 tyX4 tyX4_ok nmX4 fx.2.2.2.1 fx.2.2.2.2.2.1 hP hD hS 0 rfl rfl 19 (by decide) (fx.2.2.2.2.1 _ mm_309) (fun _ h9 => h9) rfl (by decide +kernel) rfl rfl (Nat.le_of_ble_eq_true rfl) dX4_init_983 (fun H locs hP hD hS => ?_)
  have hP : va_P D vwCl ([(h, .inr (4, [.int 0, .ref a1, .ref a2, .ref a3, .ref a4, .int 0, .int 0, .int (110 : Int32), .int 0, .int 0, .long 0, .int 0, .int 0, .int 0, .int 0, .long 0, .long 0, .int 0, .int (-1 : Int32), .int (10000 : Int32), .int 0, .int 0, .int 0, .int 0, .null, .int 0, .null, .null, .null, .null, .null])), aI q a1 50 f0, aI q a2 50 f1, aI q a3 50 f2, aZ q a4 50 (fun _ => 0)]) H := hP
  have hD : va_D A ([(h, .inr (4, [.int 0, .ref a1, .ref a2, .ref a3, .ref a4, .int 0, .int 0, .int (110 : Int32), .int 0, .int 0, .long 0, .int 0, .int 0, .int 0, .int 0, .long 0, .long 0, .int 0, .int (-1 : Int32), .int (10000 : Int32), .int 0, .int 0, .int 0, .int 0, .null, .int 0, .null, .null, .null, .null, .null])), aI q a1 50 f0, aI q a2 50 f1, aI q a3 50 f2, aZ q a4 50 (fun _ => 0)]) := hD
  refine lv_aload_n hx hb dX4_init_986 rfl (lv_at hl 0 rfl) ?_
  refine lv_bipush (v := 16) hx hb dX4_init_987 (by decide) ?_
  refine newJ fx hP hD hS hA (N9 := 16) (by decide) (by decide) (Nat.le_of_ble_eq_true rfl) (Nat.le_of_ble_eq_true rfl) (Nat.le_of_ble_eq_true rfl) dX4_init_989 (fun a5 H hP hD hS => ?_)
  have hP : va_P D vwCl ([(h, .inr (4, [.int 0, .ref a1, .ref a2, .ref a3, .ref a4, .int 0, .int 0, .int (110 : Int32), .int 0, .int 0, .long 0, .int 0, .int 0, .int 0, .int 0, .long 0, .long 0, .int 0, .int (-1 : Int32), .int (10000 : Int32), .int 0, .int 0, .int 0, .int 0, .null, .int 0, .null, .null, .null, .null, .null])), aI q a1 50 f0, aI q a2 50 f1, aI q a3 50 f2, aZ q a4 50 (fun _ => 0), aJ q a5 16 (fun _ => 0)]) H := hP
  have hD : va_D A ([(h, .inr (4, [.int 0, .ref a1, .ref a2, .ref a3, .ref a4, .int 0, .int 0, .int (110 : Int32), .int 0, .int 0, .long 0, .int 0, .int 0, .int 0, .int 0, .long 0, .long 0, .int 0, .int (-1 : Int32), .int (10000 : Int32), .int 0, .int 0, .int 0, .int 0, .null, .int 0, .null, .null, .null, .null, .null])), aI q a1 50 f0, aI q a2 50 f1, aI q a3 50 f2, aZ q a4 50 (fun _ => 0), aJ q a5 16 (fun _ => 0)]) := hD
  refine W.widen (k := 5) (n := 216) (Nat.le_of_ble_eq_true rfl) (Nat.le_of_ble_eq_true rfl) ?_
  refine va_putF (D := D) (ci := 4) (v := .ref a5) (ty := .array .long) (C := RX4) (T := TX4) (N := 31) hx hb fx.2.2.2.2.1 inlX4 tyX4 tyX4_ok nmX4 fx.2.2.2.1 fx.2.2.2.2.2.1 hP hD hS 0 rfl rfl 24 (by decide) (fx.2.2.2.2.1 _ mm_376) (fun _ h9 => h9) rfl hin rfl (by decide +kernel) rfl rfl (Nat.le_of_ble_eq_true rfl) dX4_init_991 (fun H locs hP hD hS => ?_)
  have hP : va_P D vwCl ([(h, .inr (4, [.int 0, .ref a1, .ref a2, .ref a3, .ref a4, .int 0, .int 0, .int (110 : Int32), .int 0, .int 0, .long 0, .int 0, .int 0, .int 0, .int 0, .long 0, .long 0, .int 0, .int (-1 : Int32), .int (10000 : Int32), .int 0, .int 0, .int 0, .int 0, .ref a5, .int 0, .null, .null, .null, .null, .null])), aI q a1 50 f0, aI q a2 50 f1, aI q a3 50 f2, aZ q a4 50 (fun _ => 0), aJ q a5 16 (fun _ => 0)]) H := hP
  have hD : va_D A ([(h, .inr (4, [.int 0, .ref a1, .ref a2, .ref a3, .ref a4, .int 0, .int 0, .int (110 : Int32), .int 0, .int 0, .long 0, .int 0, .int 0, .int 0, .int 0, .long 0, .long 0, .int 0, .int (-1 : Int32), .int (10000 : Int32), .int 0, .int 0, .int 0, .int 0, .ref a5, .int 0, .null, .null, .null, .null, .null])), aI q a1 50 f0, aI q a2 50 f1, aI q a3 50 f2, aZ q a4 50 (fun _ => 0), aJ q a5 16 (fun _ => 0)]) := hD
  refine lv_aload_n hx hb dX4_init_994 rfl (lv_at hl 0 rfl) ?_
  refine lv_bipush (v := 60) hx hb dX4_init_995 (by decide) ?_
  refine newI fx hP hD hS hA (N9 := 60) (by decide) (by decide) (Nat.le_of_ble_eq_true rfl) (Nat.le_of_ble_eq_true rfl) (Nat.le_of_ble_eq_true rfl) dX4_init_997 (fun a6 H hP hD hS => ?_)
  have hP : va_P D vwCl ([(h, .inr (4, [.int 0, .ref a1, .ref a2, .ref a3, .ref a4, .int 0, .int 0, .int (110 : Int32), .int 0, .int 0, .long 0, .int 0, .int 0, .int 0, .int 0, .long 0, .long 0, .int 0, .int (-1 : Int32), .int (10000 : Int32), .int 0, .int 0, .int 0, .int 0, .ref a5, .int 0, .null, .null, .null, .null, .null])), aI q a1 50 f0, aI q a2 50 f1, aI q a3 50 f2, aZ q a4 50 (fun _ => 0), aJ q a5 16 (fun _ => 0), aI q a6 60 (fun _ => 0)]) H := hP
  have hD : va_D A ([(h, .inr (4, [.int 0, .ref a1, .ref a2, .ref a3, .ref a4, .int 0, .int 0, .int (110 : Int32), .int 0, .int 0, .long 0, .int 0, .int 0, .int 0, .int 0, .long 0, .long 0, .int 0, .int (-1 : Int32), .int (10000 : Int32), .int 0, .int 0, .int 0, .int 0, .ref a5, .int 0, .null, .null, .null, .null, .null])), aI q a1 50 f0, aI q a2 50 f1, aI q a3 50 f2, aZ q a4 50 (fun _ => 0), aJ q a5 16 (fun _ => 0), aI q a6 60 (fun _ => 0)]) := hD
  refine W.widen (k := 6) (n := 276) (Nat.le_of_ble_eq_true rfl) (Nat.le_of_ble_eq_true rfl) ?_
  refine va_putF (D := D) (ci := 4) (v := .ref a6) (ty := .array .int) (C := RX4) (T := TX4) (N := 31) hx hb fx.2.2.2.2.1 inlX4 tyX4 tyX4_ok nmX4 fx.2.2.2.1 fx.2.2.2.2.2.1 hP hD hS 0 rfl rfl 26 (by decide) (fx.2.2.2.2.1 _ mm_342) (fun _ h9 => h9) rfl hin rfl (by decide +kernel) rfl rfl (Nat.le_of_ble_eq_true rfl) dX4_init_999 (fun H locs hP hD hS => ?_)
  have hP : va_P D vwCl ([(h, .inr (4, [.int 0, .ref a1, .ref a2, .ref a3, .ref a4, .int 0, .int 0, .int (110 : Int32), .int 0, .int 0, .long 0, .int 0, .int 0, .int 0, .int 0, .long 0, .long 0, .int 0, .int (-1 : Int32), .int (10000 : Int32), .int 0, .int 0, .int 0, .int 0, .ref a5, .int 0, .ref a6, .null, .null, .null, .null])), aI q a1 50 f0, aI q a2 50 f1, aI q a3 50 f2, aZ q a4 50 (fun _ => 0), aJ q a5 16 (fun _ => 0), aI q a6 60 (fun _ => 0)]) H := hP
  have hD : va_D A ([(h, .inr (4, [.int 0, .ref a1, .ref a2, .ref a3, .ref a4, .int 0, .int 0, .int (110 : Int32), .int 0, .int 0, .long 0, .int 0, .int 0, .int 0, .int 0, .long 0, .long 0, .int 0, .int (-1 : Int32), .int (10000 : Int32), .int 0, .int 0, .int 0, .int 0, .ref a5, .int 0, .ref a6, .null, .null, .null, .null])), aI q a1 50 f0, aI q a2 50 f1, aI q a3 50 f2, aZ q a4 50 (fun _ => 0), aJ q a5 16 (fun _ => 0), aI q a6 60 (fun _ => 0)]) := hD
  refine lv_aload_n hx hb dX4_init_1002 rfl (lv_at hl 0 rfl) ?_
  refine lv_bipush (v := 60) hx hb dX4_init_1003 (by decide) ?_
  refine newI fx hP hD hS hA (N9 := 60) (by decide) (by decide) (Nat.le_of_ble_eq_true rfl) (Nat.le_of_ble_eq_true rfl) (Nat.le_of_ble_eq_true rfl) dX4_init_1005 (fun a7 H hP hD hS => ?_)
  have hP : va_P D vwCl ([(h, .inr (4, [.int 0, .ref a1, .ref a2, .ref a3, .ref a4, .int 0, .int 0, .int (110 : Int32), .int 0, .int 0, .long 0, .int 0, .int 0, .int 0, .int 0, .long 0, .long 0, .int 0, .int (-1 : Int32), .int (10000 : Int32), .int 0, .int 0, .int 0, .int 0, .ref a5, .int 0, .ref a6, .null, .null, .null, .null])), aI q a1 50 f0, aI q a2 50 f1, aI q a3 50 f2, aZ q a4 50 (fun _ => 0), aJ q a5 16 (fun _ => 0), aI q a6 60 (fun _ => 0), aI q a7 60 (fun _ => 0)]) H := hP
  have hD : va_D A ([(h, .inr (4, [.int 0, .ref a1, .ref a2, .ref a3, .ref a4, .int 0, .int 0, .int (110 : Int32), .int 0, .int 0, .long 0, .int 0, .int 0, .int 0, .int 0, .long 0, .long 0, .int 0, .int (-1 : Int32), .int (10000 : Int32), .int 0, .int 0, .int 0, .int 0, .ref a5, .int 0, .ref a6, .null, .null, .null, .null])), aI q a1 50 f0, aI q a2 50 f1, aI q a3 50 f2, aZ q a4 50 (fun _ => 0), aJ q a5 16 (fun _ => 0), aI q a6 60 (fun _ => 0), aI q a7 60 (fun _ => 0)]) := hD
  refine W.widen (k := 7) (n := 336) (Nat.le_of_ble_eq_true rfl) (Nat.le_of_ble_eq_true rfl) ?_
  refine va_putF (D := D) (ci := 4) (v := .ref a7) (ty := .array .int) (C := RX4) (T := TX4) (N := 31) hx hb fx.2.2.2.2.1 inlX4 tyX4 tyX4_ok nmX4 fx.2.2.2.1 fx.2.2.2.2.2.1 hP hD hS 0 rfl rfl 27 (by decide) (fx.2.2.2.2.1 _ mm_366) (fun _ h9 => h9) rfl hin rfl (by decide +kernel) rfl rfl (Nat.le_of_ble_eq_true rfl) dX4_init_1007 (fun H locs hP hD hS => ?_)
  have hP : va_P D vwCl ([(h, .inr (4, [.int 0, .ref a1, .ref a2, .ref a3, .ref a4, .int 0, .int 0, .int (110 : Int32), .int 0, .int 0, .long 0, .int 0, .int 0, .int 0, .int 0, .long 0, .long 0, .int 0, .int (-1 : Int32), .int (10000 : Int32), .int 0, .int 0, .int 0, .int 0, .ref a5, .int 0, .ref a6, .ref a7, .null, .null, .null])), aI q a1 50 f0, aI q a2 50 f1, aI q a3 50 f2, aZ q a4 50 (fun _ => 0), aJ q a5 16 (fun _ => 0), aI q a6 60 (fun _ => 0), aI q a7 60 (fun _ => 0)]) H := hP
  have hD : va_D A ([(h, .inr (4, [.int 0, .ref a1, .ref a2, .ref a3, .ref a4, .int 0, .int 0, .int (110 : Int32), .int 0, .int 0, .long 0, .int 0, .int 0, .int 0, .int 0, .long 0, .long 0, .int 0, .int (-1 : Int32), .int (10000 : Int32), .int 0, .int 0, .int 0, .int 0, .ref a5, .int 0, .ref a6, .ref a7, .null, .null, .null])), aI q a1 50 f0, aI q a2 50 f1, aI q a3 50 f2, aZ q a4 50 (fun _ => 0), aJ q a5 16 (fun _ => 0), aI q a6 60 (fun _ => 0), aI q a7 60 (fun _ => 0)]) := hD
  refine lv_aload_n hx hb dX4_init_1010 rfl (lv_at hl 0 rfl) ?_
  refine lv_bipush (v := 60) hx hb dX4_init_1011 (by decide) ?_
  refine newZ fx hP hD hS hA (N9 := 60) (by decide) (by decide) (Nat.le_of_ble_eq_true rfl) (Nat.le_of_ble_eq_true rfl) (Nat.le_of_ble_eq_true rfl) dX4_init_1013 (fun a8 H hP hD hS => ?_)
  have hP : va_P D vwCl ([(h, .inr (4, [.int 0, .ref a1, .ref a2, .ref a3, .ref a4, .int 0, .int 0, .int (110 : Int32), .int 0, .int 0, .long 0, .int 0, .int 0, .int 0, .int 0, .long 0, .long 0, .int 0, .int (-1 : Int32), .int (10000 : Int32), .int 0, .int 0, .int 0, .int 0, .ref a5, .int 0, .ref a6, .ref a7, .null, .null, .null])), aI q a1 50 f0, aI q a2 50 f1, aI q a3 50 f2, aZ q a4 50 (fun _ => 0), aJ q a5 16 (fun _ => 0), aI q a6 60 (fun _ => 0), aI q a7 60 (fun _ => 0), aZ q a8 60 (fun _ => 0)]) H := hP
  have hD : va_D A ([(h, .inr (4, [.int 0, .ref a1, .ref a2, .ref a3, .ref a4, .int 0, .int 0, .int (110 : Int32), .int 0, .int 0, .long 0, .int 0, .int 0, .int 0, .int 0, .long 0, .long 0, .int 0, .int (-1 : Int32), .int (10000 : Int32), .int 0, .int 0, .int 0, .int 0, .ref a5, .int 0, .ref a6, .ref a7, .null, .null, .null])), aI q a1 50 f0, aI q a2 50 f1, aI q a3 50 f2, aZ q a4 50 (fun _ => 0), aJ q a5 16 (fun _ => 0), aI q a6 60 (fun _ => 0), aI q a7 60 (fun _ => 0), aZ q a8 60 (fun _ => 0)]) := hD
  refine W.widen (k := 8) (n := 396) (Nat.le_of_ble_eq_true rfl) (Nat.le_of_ble_eq_true rfl) ?_
  refine va_putF (D := D) (ci := 4) (v := .ref a8) (ty := .array .boolean) (C := RX4) (T := TX4) (N := 31) hx hb fx.2.2.2.2.1 inlX4 tyX4 tyX4_ok nmX4 fx.2.2.2.1 fx.2.2.2.2.2.1 hP hD hS 0 rfl rfl 28 (by decide) (fx.2.2.2.2.1 _ mm_347) (fun _ h9 => h9) rfl hin rfl (by decide +kernel) rfl rfl (Nat.le_of_ble_eq_true rfl) dX4_init_1015 (fun H locs hP hD hS => ?_)
  have hP : va_P D vwCl ([(h, .inr (4, [.int 0, .ref a1, .ref a2, .ref a3, .ref a4, .int 0, .int 0, .int (110 : Int32), .int 0, .int 0, .long 0, .int 0, .int 0, .int 0, .int 0, .long 0, .long 0, .int 0, .int (-1 : Int32), .int (10000 : Int32), .int 0, .int 0, .int 0, .int 0, .ref a5, .int 0, .ref a6, .ref a7, .ref a8, .null, .null])), aI q a1 50 f0, aI q a2 50 f1, aI q a3 50 f2, aZ q a4 50 (fun _ => 0), aJ q a5 16 (fun _ => 0), aI q a6 60 (fun _ => 0), aI q a7 60 (fun _ => 0), aZ q a8 60 (fun _ => 0)]) H := hP
  have hD : va_D A ([(h, .inr (4, [.int 0, .ref a1, .ref a2, .ref a3, .ref a4, .int 0, .int 0, .int (110 : Int32), .int 0, .int 0, .long 0, .int 0, .int 0, .int 0, .int 0, .long 0, .long 0, .int 0, .int (-1 : Int32), .int (10000 : Int32), .int 0, .int 0, .int 0, .int 0, .ref a5, .int 0, .ref a6, .ref a7, .ref a8, .null, .null])), aI q a1 50 f0, aI q a2 50 f1, aI q a3 50 f2, aZ q a4 50 (fun _ => 0), aJ q a5 16 (fun _ => 0), aI q a6 60 (fun _ => 0), aI q a7 60 (fun _ => 0), aZ q a8 60 (fun _ => 0)]) := hD
  refine lv_aload_n hx hb dX4_init_1018 rfl (lv_at hl 0 rfl) ?_
  refine lv_bipush (v := 60) hx hb dX4_init_1019 (by decide) ?_
  refine newI fx hP hD hS hA (N9 := 60) (by decide) (by decide) (Nat.le_of_ble_eq_true rfl) (Nat.le_of_ble_eq_true rfl) (Nat.le_of_ble_eq_true rfl) dX4_init_1021 (fun a9 H hP hD hS => ?_)
  have hP : va_P D vwCl ([(h, .inr (4, [.int 0, .ref a1, .ref a2, .ref a3, .ref a4, .int 0, .int 0, .int (110 : Int32), .int 0, .int 0, .long 0, .int 0, .int 0, .int 0, .int 0, .long 0, .long 0, .int 0, .int (-1 : Int32), .int (10000 : Int32), .int 0, .int 0, .int 0, .int 0, .ref a5, .int 0, .ref a6, .ref a7, .ref a8, .null, .null])), aI q a1 50 f0, aI q a2 50 f1, aI q a3 50 f2, aZ q a4 50 (fun _ => 0), aJ q a5 16 (fun _ => 0), aI q a6 60 (fun _ => 0), aI q a7 60 (fun _ => 0), aZ q a8 60 (fun _ => 0), aI q a9 60 (fun _ => 0)]) H := hP
  have hD : va_D A ([(h, .inr (4, [.int 0, .ref a1, .ref a2, .ref a3, .ref a4, .int 0, .int 0, .int (110 : Int32), .int 0, .int 0, .long 0, .int 0, .int 0, .int 0, .int 0, .long 0, .long 0, .int 0, .int (-1 : Int32), .int (10000 : Int32), .int 0, .int 0, .int 0, .int 0, .ref a5, .int 0, .ref a6, .ref a7, .ref a8, .null, .null])), aI q a1 50 f0, aI q a2 50 f1, aI q a3 50 f2, aZ q a4 50 (fun _ => 0), aJ q a5 16 (fun _ => 0), aI q a6 60 (fun _ => 0), aI q a7 60 (fun _ => 0), aZ q a8 60 (fun _ => 0), aI q a9 60 (fun _ => 0)]) := hD
  refine W.widen (k := 9) (n := 456) (Nat.le_of_ble_eq_true rfl) (Nat.le_of_ble_eq_true rfl) ?_
  refine va_putF (D := D) (ci := 4) (v := .ref a9) (ty := .array .int) (C := RX4) (T := TX4) (N := 31) hx hb fx.2.2.2.2.1 inlX4 tyX4 tyX4_ok nmX4 fx.2.2.2.1 fx.2.2.2.2.2.1 hP hD hS 0 rfl rfl 29 (by decide) (fx.2.2.2.2.1 _ mm_348) (fun _ h9 => h9) rfl hin rfl (by decide +kernel) rfl rfl (Nat.le_of_ble_eq_true rfl) dX4_init_1023 (fun H locs hP hD hS => ?_)
  have hP : va_P D vwCl ([(h, .inr (4, [.int 0, .ref a1, .ref a2, .ref a3, .ref a4, .int 0, .int 0, .int (110 : Int32), .int 0, .int 0, .long 0, .int 0, .int 0, .int 0, .int 0, .long 0, .long 0, .int 0, .int (-1 : Int32), .int (10000 : Int32), .int 0, .int 0, .int 0, .int 0, .ref a5, .int 0, .ref a6, .ref a7, .ref a8, .ref a9, .null])), aI q a1 50 f0, aI q a2 50 f1, aI q a3 50 f2, aZ q a4 50 (fun _ => 0), aJ q a5 16 (fun _ => 0), aI q a6 60 (fun _ => 0), aI q a7 60 (fun _ => 0), aZ q a8 60 (fun _ => 0), aI q a9 60 (fun _ => 0)]) H := hP
  have hD : va_D A ([(h, .inr (4, [.int 0, .ref a1, .ref a2, .ref a3, .ref a4, .int 0, .int 0, .int (110 : Int32), .int 0, .int 0, .long 0, .int 0, .int 0, .int 0, .int 0, .long 0, .long 0, .int 0, .int (-1 : Int32), .int (10000 : Int32), .int 0, .int 0, .int 0, .int 0, .ref a5, .int 0, .ref a6, .ref a7, .ref a8, .ref a9, .null])), aI q a1 50 f0, aI q a2 50 f1, aI q a3 50 f2, aZ q a4 50 (fun _ => 0), aJ q a5 16 (fun _ => 0), aI q a6 60 (fun _ => 0), aI q a7 60 (fun _ => 0), aZ q a8 60 (fun _ => 0), aI q a9 60 (fun _ => 0)]) := hD
  refine lv_aload_n hx hb dX4_init_1026 rfl (lv_at hl 0 rfl) ?_
  refine lv_bipush (v := 6) hx hb dX4_init_1027 (by decide) ?_
  refine newZ fx hP hD hS hA (N9 := 6) (by decide) (by decide) (Nat.le_of_ble_eq_true rfl) (Nat.le_of_ble_eq_true rfl) (Nat.le_of_ble_eq_true rfl) dX4_init_1029 (fun a10 H hP hD hS => ?_)
  have hP : va_P D vwCl ([(h, .inr (4, [.int 0, .ref a1, .ref a2, .ref a3, .ref a4, .int 0, .int 0, .int (110 : Int32), .int 0, .int 0, .long 0, .int 0, .int 0, .int 0, .int 0, .long 0, .long 0, .int 0, .int (-1 : Int32), .int (10000 : Int32), .int 0, .int 0, .int 0, .int 0, .ref a5, .int 0, .ref a6, .ref a7, .ref a8, .ref a9, .null])), aI q a1 50 f0, aI q a2 50 f1, aI q a3 50 f2, aZ q a4 50 (fun _ => 0), aJ q a5 16 (fun _ => 0), aI q a6 60 (fun _ => 0), aI q a7 60 (fun _ => 0), aZ q a8 60 (fun _ => 0), aI q a9 60 (fun _ => 0), aZ q a10 6 (fun _ => 0)]) H := hP
  have hD : va_D A ([(h, .inr (4, [.int 0, .ref a1, .ref a2, .ref a3, .ref a4, .int 0, .int 0, .int (110 : Int32), .int 0, .int 0, .long 0, .int 0, .int 0, .int 0, .int 0, .long 0, .long 0, .int 0, .int (-1 : Int32), .int (10000 : Int32), .int 0, .int 0, .int 0, .int 0, .ref a5, .int 0, .ref a6, .ref a7, .ref a8, .ref a9, .null])), aI q a1 50 f0, aI q a2 50 f1, aI q a3 50 f2, aZ q a4 50 (fun _ => 0), aJ q a5 16 (fun _ => 0), aI q a6 60 (fun _ => 0), aI q a7 60 (fun _ => 0), aZ q a8 60 (fun _ => 0), aI q a9 60 (fun _ => 0), aZ q a10 6 (fun _ => 0)]) := hD
  refine W.widen (k := 10) (n := 462) (Nat.le_of_ble_eq_true rfl) (Nat.le_of_ble_eq_true rfl) ?_
  refine va_putF (D := D) (ci := 4) (v := .ref a10) (ty := .array .boolean) (C := RX4) (T := TX4) (N := 31) hx hb fx.2.2.2.2.1 inlX4 tyX4 tyX4_ok nmX4 fx.2.2.2.1 fx.2.2.2.2.2.1 hP hD hS 0 rfl rfl 30 (by decide) (fx.2.2.2.2.1 _ mm_354) (fun _ h9 => h9) rfl hin rfl (by decide +kernel) rfl rfl (Nat.le_of_ble_eq_true rfl) dX4_init_1031 (fun H locs hP hD hS => ?_)
  have hP : va_P D vwCl ([(h, .inr (4, [.int 0, .ref a1, .ref a2, .ref a3, .ref a4, .int 0, .int 0, .int (110 : Int32), .int 0, .int 0, .long 0, .int 0, .int 0, .int 0, .int 0, .long 0, .long 0, .int 0, .int (-1 : Int32), .int (10000 : Int32), .int 0, .int 0, .int 0, .int 0, .ref a5, .int 0, .ref a6, .ref a7, .ref a8, .ref a9, .ref a10])), aI q a1 50 f0, aI q a2 50 f1, aI q a3 50 f2, aZ q a4 50 (fun _ => 0), aJ q a5 16 (fun _ => 0), aI q a6 60 (fun _ => 0), aI q a7 60 (fun _ => 0), aZ q a8 60 (fun _ => 0), aI q a9 60 (fun _ => 0), aZ q a10 6 (fun _ => 0)]) H := hP
  have hD : va_D A ([(h, .inr (4, [.int 0, .ref a1, .ref a2, .ref a3, .ref a4, .int 0, .int 0, .int (110 : Int32), .int 0, .int 0, .long 0, .int 0, .int 0, .int 0, .int 0, .long 0, .long 0, .int 0, .int (-1 : Int32), .int (10000 : Int32), .int 0, .int 0, .int 0, .int 0, .ref a5, .int 0, .ref a6, .ref a7, .ref a8, .ref a9, .ref a10])), aI q a1 50 f0, aI q a2 50 f1, aI q a3 50 f2, aZ q a4 50 (fun _ => 0), aJ q a5 16 (fun _ => 0), aI q a6 60 (fun _ => 0), aI q a7 60 (fun _ => 0), aZ q a8 60 (fun _ => 0), aI q a9 60 (fun _ => 0), aZ q a10 6 (fun _ => 0)]) := hD
  exact hret 1034 H locs ls dX4_init_1034 (fun hAe => ⟨kof [h, a1, a2, a3, a4, a5, a6, a7, a8, a9, a10], (0, f0, f1, f2, (fun _ => 0), 0, 0, (110 : Int32), 0, 0, 0, 0, 0, 0, 0, 0, 0, 0, (-1 : Int32), (10000 : Int32), 0, 0, 0, 0, (fun _ => 0), 0, (fun _ => 0), (fun _ => 0), (fun _ => 0), (fun _ => 0), (fun _ => 0)), rfl, ⟨f0, f1, f2, hf0, hf1, hf2, rfl⟩, hP, hAe ▸ hD⟩) hS
