/-! THE CONSTRUCTORS: what they leave -/
def Y11 (b : Nat) : List aE := [.inr (11, up (up (up (up (up (up (up (up (up (up (up (up (up (up (up (up (up (up (up (up (up (up (up (up (up (up (up (up (up (up (up (up (up (up (up (up (up (up (up (up (up (up (up (fun k => dflt (tyX11 k)) 2 (.ref (b + 1))) 3 (.ref (b + 2))) 4 (.ref (b + 3))) 7 (.ref (b + 4))) 8 (.ref (b + 5))) 9 (.ref (b + 6))) 15 (.ref (b + 7))) 21 (vi (-1))) 25 (.ref (b + 8))) 26 (.ref (b + 9))) 28 (.ref (b + 10))) 29 (.ref (b + 11))) 30 (.ref (b + 12))) 31 (.ref (b + 13))) 32 (.ref (b + 14))) 33 (.ref (b + 15))) 34 (.ref (b + 16))) 35 (.ref (b + 17))) 38 (.ref (b + 18))) 39 (.ref (b + 19))) 40 (vi (-1))) 42 (.ref (b + 20))) 43 (.ref (b + 21))) 44 (.ref (b + 22))) 45 (.ref (b + 23))) 46 (.ref (b + 24))) 47 (.ref (b + 25))) 48 (.ref (b + 26))) 51 (.ref (b + 27))) 52 (.ref (b + 28))) 53 (.ref (b + 29))) 54 (.ref (b + 30))) 56 (.ref (b + 31))) 57 (.ref (b + 32))) 58 (.ref (b + 33))) 59 (.ref (b + 34))) 0 (vi 4)) 1 (vi 50)) 5 (vi 1)) 6 (vi 1)) 10 (vi 100)) 12 (vi 500)) 13 (vi 300)), .inl (0, 12, up (up (up (up (fun _ => 0) 0 8) 1 6) 2 4) 3 2), .inl (0, 12, fun _ => 0), .inl (0, 12, fun _ => 0), .inl (0, 61, fun _ => 0), .inl (0, 61, fun _ => 0), .inl (0, 5, up (up (up (up (up (fun _ => 0) 0 2) 1 3) 2 3) 3 150) 4 5000), .inl (0, 160, fun _ => 0), .inl (0, 12, fun _ => 0), .inl (0, 12, fun _ => 0), .inl (0, 64, fun _ => 0), .inl (0, 64, fun _ => 0), .inl (0, 64, fun _ => 0), .inl (0, 64, fun _ => 0), .inl (0, 4, fun _ => 0), .inl (0, 4, fun _ => 0), .inl (0, 61, fun _ => 0), .inl (0, 61, fun _ => 0), .inl (1, 793, fun _ => 0), .inl (1, 793, fun _ => 0), .inl (0, 720, fun _ => 0), .inl (0, 720, fun _ => 0), .inl (0, 12, fun _ => 0), .inl (0, 12, fun _ => 0), .inl (0, 12, fun _ => 0), .inl (1, 793, fun _ => 0), .inl (1, 793, fun _ => 0), .inl (0, 6, fun _ => 0), .inl (0, 8, fun _ => 0), .inl (2, 256, fun _ => 0), .inl (2, 256, fun _ => 0), .inl (0, 60, fun _ => 0), .inl (0, 60, fun _ => 0), .inl (0, 340, fun _ => 0), .inl (2, 2, fun _ => 0)]
set_option maxRecDepth 100000 in
theorem n_X11 {G : gT} {l : List aE} (hl : l.length ≤ 100) : Meets G mX11_init [.ref l.length] (lw (l ++ [.inr (11, fun k => dflt (tyX11 k))])) (fun r w => r = none ∧ w = lw (l ++ Y11 l.length)) := by
  refine L_ent [some (.ref l.length), none] rfl ?_
  have hm : ([] : List aE).length = 0 := rfl
  refine L_aload_n eX11_init_0 rfl ?_
  refine V_objInit (o := l.length) v_X11_1 oi_1 oi_2 eX11_init_1 ?_
  refine L_aload_n eX11_init_4 rfl ?_
  refine L_bipush eX11_init_5 rfl ?_
  refine M_newI (n := 12) (m' := 1) eX11_init_7 hm rfl (by omega) (by decide) (fun hm => ?_)
  refine M_putF eX11_init_9 f_X11_7 rfl rfl ?_
  refine L_aload_n eX11_init_12 rfl ?_
  refine L_bipush eX11_init_13 rfl ?_
  refine M_newI (n := 12) (m' := 2) eX11_init_15 hm rfl (by omega) (by decide) (fun hm => ?_)
  refine M_putF eX11_init_17 f_X11_13 rfl rfl ?_
  refine L_aload_n eX11_init_20 rfl ?_
  refine L_bipush eX11_init_21 rfl ?_
  refine M_newI (n := 12) (m' := 3) eX11_init_23 hm rfl (by omega) (by decide) (fun hm => ?_)
  refine M_putF eX11_init_25 f_X11_16 rfl rfl ?_
  refine L_aload_n eX11_init_28 rfl ?_
  refine L_bipush eX11_init_29 rfl ?_
  refine M_newI (n := 61) (m' := 4) eX11_init_31 hm rfl (by omega) (by decide) (fun hm => ?_)
  refine M_putF eX11_init_33 f_X11_19 rfl rfl ?_
  refine L_aload_n eX11_init_36 rfl ?_
  refine L_bipush eX11_init_37 rfl ?_
  refine M_newI (n := 61) (m' := 5) eX11_init_39 hm rfl (by omega) (by decide) (fun hm => ?_)
  refine M_putF eX11_init_41 f_X11_22 rfl rfl ?_
  refine L_aload_n eX11_init_44 rfl ?_
  refine V_iconst eX11_init_45 ?_
  refine M_newI (n := 5) (m' := 6) eX11_init_46 hm rfl (by omega) (by decide) (fun hm => ?_)
  refine M_putF eX11_init_48 f_X11_25 rfl rfl ?_
  refine L_aload_n eX11_init_51 rfl ?_
  refine L_sipush eX11_init_52 rfl ?_
  refine M_newI (n := 160) (m' := 7) eX11_init_55 hm rfl (by omega) (by decide) (fun hm => ?_)
  refine M_putF eX11_init_57 f_X11_28 rfl rfl ?_
  refine L_aload_n eX11_init_60 rfl ?_
  refine V_iconst eX11_init_61 ?_
  refine M_put eX11_init_62 f_X11_31 rfl rfl ?_
  refine L_aload_n eX11_init_65 rfl ?_
  refine L_bipush eX11_init_66 rfl ?_
  refine M_newI (n := 12) (m' := 8) eX11_init_68 hm rfl (by omega) (by decide) (fun hm => ?_)
  refine M_putF eX11_init_70 f_X11_35 rfl rfl ?_
  refine L_aload_n eX11_init_73 rfl ?_
  refine L_bipush eX11_init_74 rfl ?_
  refine M_newI (n := 12) (m' := 9) eX11_init_76 hm rfl (by omega) (by decide) (fun hm => ?_)
  refine M_putF eX11_init_78 f_X11_38 rfl rfl ?_
  refine L_aload_n eX11_init_81 rfl ?_
  refine L_bipush eX11_init_82 rfl ?_
  refine M_newI (n := 64) (m' := 10) eX11_init_84 hm rfl (by omega) (by decide) (fun hm => ?_)
  refine M_putF eX11_init_86 f_X11_41 rfl rfl ?_
  refine L_aload_n eX11_init_89 rfl ?_
  refine L_bipush eX11_init_90 rfl ?_
  refine M_newI (n := 64) (m' := 11) eX11_init_92 hm rfl (by omega) (by decide) (fun hm => ?_)
  refine M_putF eX11_init_94 f_X11_44 rfl rfl ?_
  refine L_aload_n eX11_init_97 rfl ?_
  refine L_bipush eX11_init_98 rfl ?_
  refine M_newI (n := 64) (m' := 12) eX11_init_100 hm rfl (by omega) (by decide) (fun hm => ?_)
  refine M_putF eX11_init_102 f_X11_47 rfl rfl ?_
  refine L_aload_n eX11_init_105 rfl ?_
  refine L_bipush eX11_init_106 rfl ?_
  refine M_newI (n := 64) (m' := 13) eX11_init_108 hm rfl (by omega) (by decide) (fun hm => ?_)
  refine M_putF eX11_init_110 f_X11_50 rfl rfl ?_
  refine L_aload_n eX11_init_113 rfl ?_
  refine V_iconst eX11_init_114 ?_
  refine M_newI (n := 4) (m' := 14) eX11_init_115 hm rfl (by omega) (by decide) (fun hm => ?_)
  refine M_putF eX11_init_117 f_X11_53 rfl rfl ?_
  refine L_aload_n eX11_init_120 rfl ?_
  refine V_iconst eX11_init_121 ?_
  refine M_newI (n := 4) (m' := 15) eX11_init_122 hm rfl (by omega) (by decide) (fun hm => ?_)
  refine M_putF eX11_init_124 f_X11_56 rfl rfl ?_
  refine L_aload_n eX11_init_127 rfl ?_
  refine L_bipush eX11_init_128 rfl ?_
  refine M_newI (n := 61) (m' := 16) eX11_init_130 hm rfl (by omega) (by decide) (fun hm => ?_)
  refine M_putF eX11_init_132 f_X11_59 rfl rfl ?_
  refine L_aload_n eX11_init_135 rfl ?_
  refine L_bipush eX11_init_136 rfl ?_
  refine M_newI (n := 61) (m' := 17) eX11_init_138 hm rfl (by omega) (by decide) (fun hm => ?_)
  refine M_putF eX11_init_140 f_X11_62 rfl rfl ?_
  refine L_aload_n eX11_init_143 rfl ?_
  refine L_sipush eX11_init_144 rfl ?_
  refine M_newL (n := 793) (m' := 18) eX11_init_147 hm rfl (by omega) (by decide) (fun hm => ?_)
  refine M_putF eX11_init_149 f_X11_65 rfl rfl ?_
  refine L_aload_n eX11_init_152 rfl ?_
  refine L_sipush eX11_init_153 rfl ?_
  refine M_newL (n := 793) (m' := 19) eX11_init_156 hm rfl (by omega) (by decide) (fun hm => ?_)
  refine M_putF eX11_init_158 f_X11_69 rfl rfl ?_
  refine L_aload_n eX11_init_161 rfl ?_
  refine V_iconst eX11_init_162 ?_
  refine M_put eX11_init_163 f_X11_72 rfl rfl ?_
  refine L_aload_n eX11_init_166 rfl ?_
  refine L_sipush eX11_init_167 rfl ?_
  refine M_newI (n := 720) (m' := 20) eX11_init_170 hm rfl (by omega) (by decide) (fun hm => ?_)
  refine M_putF eX11_init_172 f_X11_75 rfl rfl ?_
  refine L_aload_n eX11_init_175 rfl ?_
  refine L_sipush eX11_init_176 rfl ?_
  refine M_newI (n := 720) (m' := 21) eX11_init_179 hm rfl (by omega) (by decide) (fun hm => ?_)
  refine M_putF eX11_init_181 f_X11_78 rfl rfl ?_
  refine L_aload_n eX11_init_184 rfl ?_
  refine L_bipush eX11_init_185 rfl ?_
  refine M_newI (n := 12) (m' := 22) eX11_init_187 hm rfl (by omega) (by decide) (fun hm => ?_)
  refine M_putF eX11_init_189 f_X11_81 rfl rfl ?_
  refine L_aload_n eX11_init_192 rfl ?_
  refine L_bipush eX11_init_193 rfl ?_
  refine M_newI (n := 12) (m' := 23) eX11_init_195 hm rfl (by omega) (by decide) (fun hm => ?_)
  refine M_putF eX11_init_197 f_X11_84 rfl rfl ?_
  refine L_aload_n eX11_init_200 rfl ?_
  refine L_bipush eX11_init_201 rfl ?_
  refine M_newI (n := 12) (m' := 24) eX11_init_203 hm rfl (by omega) (by decide) (fun hm => ?_)
  refine M_putF eX11_init_205 f_X11_87 rfl rfl ?_
  refine L_aload_n eX11_init_208 rfl ?_
  refine L_sipush eX11_init_209 rfl ?_
  refine M_newL (n := 793) (m' := 25) eX11_init_212 hm rfl (by omega) (by decide) (fun hm => ?_)
  refine M_putF eX11_init_214 f_X11_90 rfl rfl ?_
  refine L_aload_n eX11_init_217 rfl ?_
  refine L_sipush eX11_init_218 rfl ?_
  refine M_newL (n := 793) (m' := 26) eX11_init_221 hm rfl (by omega) (by decide) (fun hm => ?_)
  refine M_putF eX11_init_223 f_X11_93 rfl rfl ?_
  refine L_aload_n eX11_init_226 rfl ?_
  refine L_bipush eX11_init_227 rfl ?_
  refine M_newI (n := 6) (m' := 27) eX11_init_229 hm rfl (by omega) (by decide) (fun hm => ?_)
  refine M_putF eX11_init_231 f_X11_96 rfl rfl ?_
  refine L_aload_n eX11_init_234 rfl ?_
  refine L_bipush eX11_init_235 rfl ?_
  refine M_newI (n := 8) (m' := 28) eX11_init_237 hm rfl (by omega) (by decide) (fun hm => ?_)
  refine M_putF eX11_init_239 f_X11_99 rfl rfl ?_
  refine L_aload_n eX11_init_242 rfl ?_
  refine L_sipush eX11_init_243 rfl ?_
  refine M_newZ (n := 256) (m' := 29) eX11_init_246 hm rfl (by omega) (by decide) (fun hm => ?_)
  refine M_putF eX11_init_248 f_X11_102 rfl rfl ?_
  refine L_aload_n eX11_init_251 rfl ?_
  refine L_sipush eX11_init_252 rfl ?_
  refine M_newZ (n := 256) (m' := 30) eX11_init_255 hm rfl (by omega) (by decide) (fun hm => ?_)
  refine M_putF eX11_init_257 f_X11_106 rfl rfl ?_
  refine L_aload_n eX11_init_260 rfl ?_
  refine L_bipush eX11_init_261 rfl ?_
  refine M_newI (n := 60) (m' := 31) eX11_init_263 hm rfl (by omega) (by decide) (fun hm => ?_)
  refine M_putF eX11_init_265 f_X11_109 rfl rfl ?_
  refine L_aload_n eX11_init_268 rfl ?_
  refine L_bipush eX11_init_269 rfl ?_
  refine M_newI (n := 60) (m' := 32) eX11_init_271 hm rfl (by omega) (by decide) (fun hm => ?_)
  refine M_putF eX11_init_273 f_X11_112 rfl rfl ?_
  refine L_aload_n eX11_init_276 rfl ?_
  refine L_sipush eX11_init_277 rfl ?_
  refine M_newI (n := 340) (m' := 33) eX11_init_280 hm rfl (by omega) (by decide) (fun hm => ?_)
  refine M_putF eX11_init_282 f_X11_115 rfl rfl ?_
  refine L_aload_n eX11_init_285 rfl ?_
  refine V_iconst eX11_init_286 ?_
  refine M_newZ (n := 2) (m' := 34) eX11_init_287 hm rfl (by omega) (by decide) (fun hm => ?_)
  refine M_putF eX11_init_289 f_X11_118 rfl rfl ?_
  refine L_aload_n eX11_init_292 rfl ?_
  refine V_iconst eX11_init_293 ?_
  refine M_put eX11_init_294 f_X11_121 rfl rfl ?_
  refine L_aload_n eX11_init_297 rfl ?_
  refine L_bipush eX11_init_298 rfl ?_
  refine M_put eX11_init_300 f_X11_124 rfl rfl ?_
  show V G mX11_init _ _ _ _ _ _ (lw (l ++ (_ :: [.inl (0, 12, fun _ => 0), .inl (0, 12, fun _ => 0), .inl (0, 12, fun _ => 0), .inl (0, 61, fun _ => 0), .inl (0, 61, fun _ => 0), .inl (0, 5, fun _ => 0), .inl (0, 160, fun _ => 0), .inl (0, 12, fun _ => 0), .inl (0, 12, fun _ => 0), .inl (0, 64, fun _ => 0), .inl (0, 64, fun _ => 0), .inl (0, 64, fun _ => 0), .inl (0, 64, fun _ => 0), .inl (0, 4, fun _ => 0), .inl (0, 4, fun _ => 0), .inl (0, 61, fun _ => 0), .inl (0, 61, fun _ => 0), .inl (1, 793, fun _ => 0), .inl (1, 793, fun _ => 0), .inl (0, 720, fun _ => 0), .inl (0, 720, fun _ => 0), .inl (0, 12, fun _ => 0), .inl (0, 12, fun _ => 0), .inl (0, 12, fun _ => 0), .inl (1, 793, fun _ => 0), .inl (1, 793, fun _ => 0), .inl (0, 6, fun _ => 0), .inl (0, 8, fun _ => 0), .inl (2, 256, fun _ => 0), .inl (2, 256, fun _ => 0), .inl (0, 60, fun _ => 0), .inl (0, 60, fun _ => 0), .inl (0, 340, fun _ => 0), .inl (2, 2, fun _ => 0)])))
  refine V_iconst eX11_init_303 ?_
  refine L_istore_n eX11_init_304 (s_1 rfl rfl) ?_
  refine L_iload_n eX11_init_305 rfl ?_
  refine V_iconst eX11_init_306 ?_
  refine V_icmpge eX11_init_307 (fun h2 => absurd h2 (by decide)) (fun h2 => ?_)
  refine L_aload_n eX11_init_310 rfl ?_
  refine N_get (i := 0) (v := .ref (l.length + 1)) eX11_init_311 f_X11_7 rfl rfl ?_
  refine L_iload_n eX11_init_314 rfl ?_
  refine L_bipush eX11_init_315 rfl ?_
  refine V_iconst eX11_init_317 ?_
  refine L_iload_n eX11_init_318 rfl ?_
  refine V_imul eX11_init_319 ?_
  refine V_isub eX11_init_320 ?_
  refine N_iast (i := 1) eX11_init_321 rfl ?_
  refine L_iinc eX11_init_322 rfl (s_1 rfl rfl) ?_
  refine V_goto eX11_init_325 ?_
  refine L_iload_n eX11_init_305 rfl ?_
  refine V_iconst eX11_init_306 ?_
  refine V_icmpge eX11_init_307 (fun h2 => absurd h2 (by decide)) (fun h2 => ?_)
  refine L_aload_n eX11_init_310 rfl ?_
  refine N_get (i := 0) (v := .ref (l.length + 1)) eX11_init_311 f_X11_7 rfl rfl ?_
  refine L_iload_n eX11_init_314 rfl ?_
  refine L_bipush eX11_init_315 rfl ?_
  refine V_iconst eX11_init_317 ?_
  refine L_iload_n eX11_init_318 rfl ?_
  refine V_imul eX11_init_319 ?_
  refine V_isub eX11_init_320 ?_
  refine N_iast (i := 1) eX11_init_321 rfl ?_
  refine L_iinc eX11_init_322 rfl (s_1 rfl rfl) ?_
  refine V_goto eX11_init_325 ?_
  refine L_iload_n eX11_init_305 rfl ?_
  refine V_iconst eX11_init_306 ?_
  refine V_icmpge eX11_init_307 (fun h2 => absurd h2 (by decide)) (fun h2 => ?_)
  refine L_aload_n eX11_init_310 rfl ?_
  refine N_get (i := 0) (v := .ref (l.length + 1)) eX11_init_311 f_X11_7 rfl rfl ?_
  refine L_iload_n eX11_init_314 rfl ?_
  refine L_bipush eX11_init_315 rfl ?_
  refine V_iconst eX11_init_317 ?_
  refine L_iload_n eX11_init_318 rfl ?_
  refine V_imul eX11_init_319 ?_
  refine V_isub eX11_init_320 ?_
  refine N_iast (i := 1) eX11_init_321 rfl ?_
  refine L_iinc eX11_init_322 rfl (s_1 rfl rfl) ?_
  refine V_goto eX11_init_325 ?_
  refine L_iload_n eX11_init_305 rfl ?_
  refine V_iconst eX11_init_306 ?_
  refine V_icmpge eX11_init_307 (fun h2 => absurd h2 (by decide)) (fun h2 => ?_)
  refine L_aload_n eX11_init_310 rfl ?_
  refine N_get (i := 0) (v := .ref (l.length + 1)) eX11_init_311 f_X11_7 rfl rfl ?_
  refine L_iload_n eX11_init_314 rfl ?_
  refine L_bipush eX11_init_315 rfl ?_
  refine V_iconst eX11_init_317 ?_
  refine L_iload_n eX11_init_318 rfl ?_
  refine V_imul eX11_init_319 ?_
  refine V_isub eX11_init_320 ?_
  refine N_iast (i := 1) eX11_init_321 rfl ?_
  refine L_iinc eX11_init_322 rfl (s_1 rfl rfl) ?_
  refine V_goto eX11_init_325 ?_
  refine L_iload_n eX11_init_305 rfl ?_
  refine V_iconst eX11_init_306 ?_
  refine V_icmpge eX11_init_307 (fun h2 => ?_) (fun h2 => absurd h2 (by decide))
  refine L_aload_n eX11_init_328 rfl ?_
  refine V_iconst eX11_init_329 ?_
  refine M_put eX11_init_330 f_X11_127 rfl rfl ?_
  refine L_aload_n eX11_init_333 rfl ?_
  refine V_iconst eX11_init_334 ?_
  refine M_put eX11_init_335 f_X11_130 rfl rfl ?_
  refine L_aload_n eX11_init_338 rfl ?_
  refine N_get (i := 0) (v := .ref (l.length + 6)) eX11_init_339 f_X11_25 rfl rfl ?_
  refine V_iconst eX11_init_342 ?_
  refine V_iconst eX11_init_343 ?_
  refine N_iast (i := 6) eX11_init_344 rfl ?_
  refine L_aload_n eX11_init_345 rfl ?_
  refine N_get (i := 0) (v := .ref (l.length + 6)) eX11_init_346 f_X11_25 rfl rfl ?_
  refine V_iconst eX11_init_349 ?_
  refine V_iconst eX11_init_350 ?_
  refine N_iast (i := 6) eX11_init_351 rfl ?_
  refine L_aload_n eX11_init_352 rfl ?_
  refine N_get (i := 0) (v := .ref (l.length + 6)) eX11_init_353 f_X11_25 rfl rfl ?_
  refine V_iconst eX11_init_356 ?_
  refine V_iconst eX11_init_357 ?_
  refine N_iast (i := 6) eX11_init_358 rfl ?_
  refine L_aload_n eX11_init_359 rfl ?_
  refine N_get (i := 0) (v := .ref (l.length + 6)) eX11_init_360 f_X11_25 rfl rfl ?_
  refine V_iconst eX11_init_363 ?_
  refine L_sipush eX11_init_364 rfl ?_
  refine N_iast (i := 6) eX11_init_367 rfl ?_
  refine L_aload_n eX11_init_368 rfl ?_
  refine N_get (i := 0) (v := .ref (l.length + 6)) eX11_init_369 f_X11_25 rfl rfl ?_
  refine V_iconst eX11_init_372 ?_
  refine L_sipush eX11_init_373 rfl ?_
  refine N_iast (i := 6) eX11_init_376 rfl ?_
  refine L_aload_n eX11_init_377 rfl ?_
  refine L_bipush eX11_init_378 rfl ?_
  refine M_put eX11_init_380 f_X11_133 rfl rfl ?_
  refine L_aload_n eX11_init_383 rfl ?_
  refine L_sipush eX11_init_384 rfl ?_
  refine M_put eX11_init_387 f_X11_136 rfl rfl ?_
  refine L_aload_n eX11_init_390 rfl ?_
  refine L_sipush eX11_init_391 rfl ?_
  refine M_put eX11_init_394 f_X11_139 rfl rfl ?_
  exact V_return eX11_init_397 ⟨rfl, rfl⟩

