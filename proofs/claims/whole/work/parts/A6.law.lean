/-! THE LAW'S LOOP -/
theorem i64_r (x : Int64) : -9223372036854775808 ≤ x.toInt ∧ x.toInt < 9223372036854775808 := ⟨Int64.le_toInt x, Int64.toInt_lt x⟩
theorem i32_r (x : Int32) : -2147483648 ≤ x.toInt ∧ x.toInt < 2147483648 := ⟨Int32.le_toInt x, Int32.toInt_lt x⟩
theorem lOr_r (a b : Int) : -9223372036854775808 ≤ lOr a b ∧ lOr a b < 9223372036854775808 := i64_r _
theorem vi_r (z : Int) : ∃ y, (-2147483648 ≤ y ∧ y < 2147483648) ∧ vi z = vi y := ⟨(Int32.ofInt z).toInt, i32_r _, by unfold vi; rw [Int32.ofInt_toInt]⟩
theorem vl_r (z : Int) : ∃ y, (-9223372036854775808 ≤ y ∧ y < 9223372036854775808) ∧ vl z = vl y := ⟨(Int64.ofInt z).toInt, i64_r _, by unfold vl; rw [Int64.ofInt_toInt]⟩
section A6
variable {G : gT} {Q : Option Value → wT → Prop} {kc ks pc q q1 t : Nat} {lc : List (Option Value)} {w : wT}
theorem law_eq {z : Int} (d : dj mL_law pc (.if_icmp .eq) q t) (k : V G mL_law Q kc ks t lc [] w) : V G mL_law Q kc ks pc lc [vi z, vi z] w := by
  obtain ⟨y, hy, e⟩ := vi_r z
  rw [e]
  exact V_icmpeq d (fun _ => k) (fun h => absurd rfl h) hy hy
theorem law_leq {z : Int} (d1 : dc mL_law pc .lcmp 1 q1) (d : dj mL_law q1 (.ifCond .eq) q t) (k : V G mL_law Q kc ks t lc [] w) : V G mL_law Q kc ks pc lc [vl z, vl z] w := by
  obtain ⟨y, hy, e⟩ := vl_r z
  rw [e]
  exact V_lcmpeq d1 d (fun _ => k) (fun h => absurd rfl h) hy hy
end A6
theorem law_loop {G : gT} (hL : gL G ≤ 3072) (hX : ∀ k, i32 (gX G k)) : ∀ (r i : Nat) (F : fT) (A : nT), gL G < i + r → i ≤ gL G → Iv F A → V G mL_law (fun r _ => r = some (vi 1)) 101 11083 18 [some (.ref 1100), some (.ref 0), some (.ref 66), some (vi i)] [] (sw F A) := by
  intro r
  induction r with
  | zero => intro i F A h1 h2 _; omega
  | succ r ih =>
    intro i F A h1 h2 h
    have e1 := hX ((i : Int) + 1).toNat
    have e2 := hX ((i : Int) + 2).toNat
    have e3 := hX ((i : Int) + 3).toNat
    unfold i32 at e1 e2 e3
    refine L_iload_n eL_law_18 rfl ?_
    refine L_aload_n eL_law_19 rfl ?_
    refine V_lenX eL_law_20 ?_
    refine L_bipush eL_law_21 rfl ?_
    refine V_isub eL_law_23 ?_
    refine V_icmpgt eL_law_24 (fun h3 => ?_) (fun h3 => ?_)
    · refine V_iconst eL_law_1143 ?_
      exact V_zreturn (nar_z (Or.inr rfl)) eL_law_1144 rfl
    have nxt : ∀ (F2 : fT) (A2 : nT), Iv F2 A2 → V G mL_law (fun r _ => r = some (vi 1)) 101 11083 1137 [some (.ref 1100), some (.ref 0), some (.ref 66), some (vi i)] [] (sw F2 A2) := fun F2 A2 hI => by
      refine L_iinc eL_law_1137 rfl (s_3 rfl rfl) ?_
      refine V_goto eL_law_1140 ?_
      exact ih (i + 6) F2 A2 (by omega) (by omega) hI
    refine L_aload_n eL_law_27 rfl ?_
    refine L_iload_n eL_law_28 rfl ?_
    refine V_ialoadX (by omega) hL eL_law_29 ?_
    refine L_bipush eL_law_30 rfl ?_
    refine V_iand eL_law_32 ?_
    obtain ⟨c, ec⟩ : ∃ c, c = iAnd (gX G (i : Int).toNat) 63 := ⟨_, rfl⟩
    have hc : -2147483648 ≤ c ∧ c < 2147483648 := by rw [ec]; exact i32_r _
    rw [← ec]
    rcases (show (c < 0 ∨ 33 < c) ∨ c = 0 ∨ c = 1 ∨ c = 2 ∨ c = 3 ∨ c = 4 ∨ c = 5 ∨ c = 6 ∨ c = 7 ∨ c = 8 ∨ c = 9 ∨ c = 10 ∨ c = 11 ∨ c = 12 ∨ c = 13 ∨ c = 14 ∨ c = 15 ∨ c = 16 ∨ c = 17 ∨ c = 18 ∨ c = 19 ∨ c = 20 ∨ c = 21 ∨ c = 22 ∨ c = 23 ∨ c = 24 ∨ c = 25 ∨ c = 26 ∨ c = 27 ∨ c = 28 ∨ c = 29 ∨ c = 30 ∨ c = 31 ∨ c = 32 ∨ c = 33 by omega) with hsw | hsw | hsw | hsw | hsw | hsw | hsw | hsw | hsw | hsw | hsw | hsw | hsw | hsw | hsw | hsw | hsw | hsw | hsw | hsw | hsw | hsw | hsw | hsw | hsw | hsw | hsw | hsw | hsw | hsw | hsw | hsw | hsw | hsw | hsw
    · refine V_tabOut eL_law_33 hsw rfl ?_
      exact nxt F A h
    · subst hsw
      refine V_tabIn eL_law_33 (by omega) rfl rfl ?_
      obtain ⟨Q1, hC, hk⟩ := Pr.w (pr_feed h (n := (gX G ((i : Int) + 1).toNat)) (z := lOr (lShl (gX G ((i : Int) + 2).toNat) 32) (lAnd (gX G ((i : Int) + 3).toNat) 4294967295)) (hX _) (lOr_r _ _)) G
      refine L_aload_n eL_law_184 rfl ?_
      refine L_aload_n eL_law_185 rfl ?_
      refine L_iload_n eL_law_186 rfl ?_
      refine V_iconst eL_law_187 ?_
      refine V_iadd eL_law_188 ?_
      refine V_ialoadX (by omega) hL eL_law_189 ?_
      refine L_aload_n eL_law_190 rfl ?_
      refine L_iload_n eL_law_191 rfl ?_
      refine V_iconst eL_law_192 ?_
      refine V_iadd eL_law_193 ?_
      refine V_ialoadX (by omega) hL eL_law_194 ?_
      refine V_i2l eL_law_195 ?_
      refine L_bipush eL_law_196 rfl ?_
      refine V_lshl eL_law_198 ?_
      refine L_aload_n eL_law_199 rfl ?_
      refine L_iload_n eL_law_200 rfl ?_
      refine V_iconst eL_law_201 ?_
      refine V_iadd eL_law_202 ?_
      refine V_ialoadX (by omega) hL eL_law_203 ?_
      refine V_i2l eL_law_204 ?_
      refine L_ldc2 eL_law_205 k_L_13 ?_
      refine V_land eL_law_208 ?_
      refine V_lor eL_law_209 ?_
      refine C_vq hC v_L_15 eL_law_210 rfl rfl (fun r w q => ?_)
      obtain ⟨v, F1, A1, er, ew, hty, Q2, hM, hk2⟩ := hk r w q
      subst er ew
      obtain ⟨z, rfl⟩ : ∃ z, v = vi z := hty
      refine L_aload_n eL_law_213 rfl ?_
      refine L_aload_n eL_law_214 rfl ?_
      refine L_iload_n eL_law_215 rfl ?_
      refine V_iconst eL_law_216 ?_
      refine V_iadd eL_law_217 ?_
      refine V_ialoadX (by omega) hL eL_law_218 ?_
      refine L_aload_n eL_law_219 rfl ?_
      refine L_iload_n eL_law_220 rfl ?_
      refine V_iconst eL_law_221 ?_
      refine V_iadd eL_law_222 ?_
      refine V_ialoadX (by omega) hL eL_law_223 ?_
      refine V_i2l eL_law_224 ?_
      refine L_bipush eL_law_225 rfl ?_
      refine V_lshl eL_law_227 ?_
      refine L_aload_n eL_law_228 rfl ?_
      refine L_iload_n eL_law_229 rfl ?_
      refine V_iconst eL_law_230 ?_
      refine V_iadd eL_law_231 ?_
      refine V_ialoadX (by omega) hL eL_law_232 ?_
      refine V_i2l eL_law_233 ?_
      refine L_ldc2 eL_law_234 k_L_13 ?_
      refine V_land eL_law_237 ?_
      refine V_lor eL_law_238 ?_
      refine C_vq hM v_L_19 eL_law_239 rfl rfl (fun r w q => ?_)
      obtain ⟨F2, A2, er, ew, hI⟩ := hk2 r w q
      subst er ew
      exact law_eq eL_law_242 (nxt F2 A2 hI)
    · subst hsw
      refine V_tabIn eL_law_33 (by omega) rfl rfl ?_
      obtain ⟨Q1, hC, hk⟩ := pw_plait h G
      refine L_aload_n eL_law_247 rfl ?_
      refine C_vq hC v_L_20 eL_law_248 rfl rfl (fun r w q => ?_)
      obtain ⟨v, F1, A1, er, ew, hty, Q2, hM, hk2⟩ := hk r w q
      subst er ew
      obtain ⟨z, rfl⟩ : ∃ z, v = vi z := hty
      refine L_aload_n eL_law_251 rfl ?_
      refine C_vq hM v_L_24 eL_law_252 rfl rfl (fun r w q => ?_)
      obtain ⟨F2, A2, er, ew, hI⟩ := hk2 r w q
      subst er ew
      exact law_eq eL_law_255 (nxt F2 A2 hI)
    · subst hsw
      refine V_tabIn eL_law_33 (by omega) rfl rfl ?_
      obtain ⟨Q1, hC, hk⟩ := pw_way h G
      refine L_aload_n eL_law_260 rfl ?_
      refine C_vq hC v_L_25 eL_law_261 rfl rfl (fun r w q => ?_)
      obtain ⟨v, F1, A1, er, ew, hty, Q2, hM, hk2⟩ := hk r w q
      subst er ew
      obtain ⟨z, rfl⟩ : ∃ z, v = vi z := hty
      refine L_aload_n eL_law_264 rfl ?_
      refine C_vq hM v_L_28 eL_law_265 rfl rfl (fun r w q => ?_)
      obtain ⟨F2, A2, er, ew, hI⟩ := hk2 r w q
      subst er ew
      exact law_eq eL_law_268 (nxt F2 A2 hI)
    · subst hsw
      refine V_tabIn eL_law_33 (by omega) rfl rfl ?_
      obtain ⟨Q1, hC, hk⟩ := Pr.w (pr_fault h) G
      refine L_aload_n eL_law_273 rfl ?_
      refine C_vq hC v_L_29 eL_law_274 rfl rfl (fun r w q => ?_)
      obtain ⟨v, F1, A1, er, ew, hty, Q2, hM, hk2⟩ := hk r w q
      subst er ew
      obtain ⟨z, rfl⟩ : ∃ z, v = vi z := hty
      refine L_aload_n eL_law_277 rfl ?_
      refine C_vq hM v_L_32 eL_law_278 rfl rfl (fun r w q => ?_)
      obtain ⟨F2, A2, er, ew, hI⟩ := hk2 r w q
      subst er ew
      exact law_eq eL_law_281 (nxt F2 A2 hI)
    · subst hsw
      refine V_tabIn eL_law_33 (by omega) rfl rfl ?_
      obtain ⟨Q1, hC, hk⟩ := Pr.w (pr_piece h (i := (gX G ((i : Int) + 1).toNat)) (w := (gX G ((i : Int) + 2).toNat)) (hX _) (hX _)) G
      refine L_aload_n eL_law_286 rfl ?_
      refine L_aload_n eL_law_287 rfl ?_
      refine L_iload_n eL_law_288 rfl ?_
      refine V_iconst eL_law_289 ?_
      refine V_iadd eL_law_290 ?_
      refine V_ialoadX (by omega) hL eL_law_291 ?_
      refine L_aload_n eL_law_292 rfl ?_
      refine L_iload_n eL_law_293 rfl ?_
      refine V_iconst eL_law_294 ?_
      refine V_iadd eL_law_295 ?_
      refine V_ialoadX (by omega) hL eL_law_296 ?_
      refine C_vq hC v_L_33 eL_law_297 rfl rfl (fun r w q => ?_)
      obtain ⟨v, F1, A1, er, ew, hty, Q2, hM, hk2⟩ := hk r w q
      subst er ew
      obtain ⟨z, rfl⟩ : ∃ z, v = vi z := hty
      refine L_aload_n eL_law_300 rfl ?_
      refine L_aload_n eL_law_301 rfl ?_
      refine L_iload_n eL_law_302 rfl ?_
      refine V_iconst eL_law_303 ?_
      refine V_iadd eL_law_304 ?_
      refine V_ialoadX (by omega) hL eL_law_305 ?_
      refine L_aload_n eL_law_306 rfl ?_
      refine L_iload_n eL_law_307 rfl ?_
      refine V_iconst eL_law_308 ?_
      refine V_iadd eL_law_309 ?_
      refine V_ialoadX (by omega) hL eL_law_310 ?_
      refine C_vq hM v_L_37 eL_law_311 rfl rfl (fun r w q => ?_)
      obtain ⟨F2, A2, er, ew, hI⟩ := hk2 r w q
      subst er ew
      exact law_eq eL_law_314 (nxt F2 A2 hI)
    · subst hsw
      refine V_tabIn eL_law_33 (by omega) rfl rfl ?_
      obtain ⟨Q1, hC, hk⟩ := Pr.w (pr_law h (w := (gX G ((i : Int) + 1).toNat)) (v := (gX G ((i : Int) + 2).toNat)) (hX _) (hX _)) G
      refine L_aload_n eL_law_319 rfl ?_
      refine L_aload_n eL_law_320 rfl ?_
      refine L_iload_n eL_law_321 rfl ?_
      refine V_iconst eL_law_322 ?_
      refine V_iadd eL_law_323 ?_
      refine V_ialoadX (by omega) hL eL_law_324 ?_
      refine L_aload_n eL_law_325 rfl ?_
      refine L_iload_n eL_law_326 rfl ?_
      refine V_iconst eL_law_327 ?_
      refine V_iadd eL_law_328 ?_
      refine V_ialoadX (by omega) hL eL_law_329 ?_
      refine C_vq hC v_L_38 eL_law_330 rfl rfl (fun r w q => ?_)
      obtain ⟨v, F1, A1, er, ew, hty, Q2, hM, hk2⟩ := hk r w q
      subst er ew
      obtain ⟨z, rfl⟩ : ∃ z, v = vi z := hty
      refine L_aload_n eL_law_333 rfl ?_
      refine L_aload_n eL_law_334 rfl ?_
      refine L_iload_n eL_law_335 rfl ?_
      refine V_iconst eL_law_336 ?_
      refine V_iadd eL_law_337 ?_
      refine V_ialoadX (by omega) hL eL_law_338 ?_
      refine L_aload_n eL_law_339 rfl ?_
      refine L_iload_n eL_law_340 rfl ?_
      refine V_iconst eL_law_341 ?_
      refine V_iadd eL_law_342 ?_
      refine V_ialoadX (by omega) hL eL_law_343 ?_
      refine C_vq hM v_L_41 eL_law_344 rfl rfl (fun r w q => ?_)
      obtain ⟨F2, A2, er, ew, hI⟩ := hk2 r w q
      subst er ew
      exact law_eq eL_law_347 (nxt F2 A2 hI)
    · subst hsw
      refine V_tabIn eL_law_33 (by omega) rfl rfl ?_
      obtain ⟨Q1, hC, hk⟩ := Pr.w (pr_give h (v := (gX G ((i : Int) + 1).toNat)) (hX _)) G
      refine L_aload_n eL_law_352 rfl ?_
      refine L_aload_n eL_law_353 rfl ?_
      refine L_iload_n eL_law_354 rfl ?_
      refine V_iconst eL_law_355 ?_
      refine V_iadd eL_law_356 ?_
      refine V_ialoadX (by omega) hL eL_law_357 ?_
      refine C_vq hC v_L_42 eL_law_358 rfl rfl (fun r w q => ?_)
      obtain ⟨v, F1, A1, er, ew, hty, Q2, hM, hk2⟩ := hk r w q
      subst er ew
      obtain ⟨z, rfl⟩ : ∃ z, v = vi z := hty
      refine L_aload_n eL_law_361 rfl ?_
      refine L_aload_n eL_law_362 rfl ?_
      refine L_iload_n eL_law_363 rfl ?_
      refine V_iconst eL_law_364 ?_
      refine V_iadd eL_law_365 ?_
      refine V_ialoadX (by omega) hL eL_law_366 ?_
      refine C_vq hM v_L_46 eL_law_367 rfl rfl (fun r w q => ?_)
      obtain ⟨F2, A2, er, ew, hI⟩ := hk2 r w q
      subst er ew
      exact law_eq eL_law_370 (nxt F2 A2 hI)
    · subst hsw
      refine V_tabIn eL_law_33 (by omega) rfl rfl ?_
      obtain ⟨Q1, hC, hk⟩ := Pr.w (pr_count h (w := (gX G ((i : Int) + 1).toNat)) (hX _)) G
      refine L_aload_n eL_law_375 rfl ?_
      refine L_aload_n eL_law_376 rfl ?_
      refine L_iload_n eL_law_377 rfl ?_
      refine V_iconst eL_law_378 ?_
      refine V_iadd eL_law_379 ?_
      refine V_ialoadX (by omega) hL eL_law_380 ?_
      refine C_vq hC v_L_47 eL_law_381 rfl rfl (fun r w q => ?_)
      obtain ⟨v, F1, A1, er, ew, hty, Q2, hM, hk2⟩ := hk r w q
      subst er ew
      obtain ⟨z, rfl⟩ : ∃ z, v = vi z := hty
      refine L_aload_n eL_law_384 rfl ?_
      refine L_aload_n eL_law_385 rfl ?_
      refine L_iload_n eL_law_386 rfl ?_
      refine V_iconst eL_law_387 ?_
      refine V_iadd eL_law_388 ?_
      refine V_ialoadX (by omega) hL eL_law_389 ?_
      refine C_vq hM v_L_50 eL_law_390 rfl rfl (fun r w q => ?_)
      obtain ⟨F2, A2, er, ew, hI⟩ := hk2 r w q
      subst er ew
      exact law_eq eL_law_393 (nxt F2 A2 hI)
    · subst hsw
      refine V_tabIn eL_law_33 (by omega) rfl rfl ?_
      obtain ⟨Q1, hC, hk⟩ := Pr.w (pr_joint h (k := (gX G ((i : Int) + 1).toNat)) (t := (gX G ((i : Int) + 2).toNat)) (w := (gX G ((i : Int) + 3).toNat)) (hX _) (hX _) (hX _)) G
      refine L_aload_n eL_law_398 rfl ?_
      refine L_aload_n eL_law_399 rfl ?_
      refine L_iload_n eL_law_400 rfl ?_
      refine V_iconst eL_law_401 ?_
      refine V_iadd eL_law_402 ?_
      refine V_ialoadX (by omega) hL eL_law_403 ?_
      refine L_aload_n eL_law_404 rfl ?_
      refine L_iload_n eL_law_405 rfl ?_
      refine V_iconst eL_law_406 ?_
      refine V_iadd eL_law_407 ?_
      refine V_ialoadX (by omega) hL eL_law_408 ?_
      refine L_aload_n eL_law_409 rfl ?_
      refine L_iload_n eL_law_410 rfl ?_
      refine V_iconst eL_law_411 ?_
      refine V_iadd eL_law_412 ?_
      refine V_ialoadX (by omega) hL eL_law_413 ?_
      refine C_vq hC v_L_51 eL_law_414 rfl rfl (fun r w q => ?_)
      obtain ⟨v, F1, A1, er, ew, hty, Q2, hM, hk2⟩ := hk r w q
      subst er ew
      obtain ⟨z, rfl⟩ : ∃ z, v = vi z := hty
      refine L_aload_n eL_law_417 rfl ?_
      refine L_aload_n eL_law_418 rfl ?_
      refine L_iload_n eL_law_419 rfl ?_
      refine V_iconst eL_law_420 ?_
      refine V_iadd eL_law_421 ?_
      refine V_ialoadX (by omega) hL eL_law_422 ?_
      refine L_aload_n eL_law_423 rfl ?_
      refine L_iload_n eL_law_424 rfl ?_
      refine V_iconst eL_law_425 ?_
      refine V_iadd eL_law_426 ?_
      refine V_ialoadX (by omega) hL eL_law_427 ?_
      refine L_aload_n eL_law_428 rfl ?_
      refine L_iload_n eL_law_429 rfl ?_
      refine V_iconst eL_law_430 ?_
      refine V_iadd eL_law_431 ?_
      refine V_ialoadX (by omega) hL eL_law_432 ?_
      refine C_vq hM v_L_55 eL_law_433 rfl rfl (fun r w q => ?_)
      obtain ⟨F2, A2, er, ew, hI⟩ := hk2 r w q
      subst er ew
      exact law_eq eL_law_436 (nxt F2 A2 hI)
    · subst hsw
      refine V_tabIn eL_law_33 (by omega) rfl rfl ?_
      obtain ⟨Q1, hC, hk⟩ := Pr.w (pr_speed h (k := (gX G ((i : Int) + 1).toNat)) (t := (gX G ((i : Int) + 2).toNat)) (hX _) (hX _)) G
      refine L_aload_n eL_law_441 rfl ?_
      refine L_aload_n eL_law_442 rfl ?_
      refine L_iload_n eL_law_443 rfl ?_
      refine V_iconst eL_law_444 ?_
      refine V_iadd eL_law_445 ?_
      refine V_ialoadX (by omega) hL eL_law_446 ?_
      refine L_aload_n eL_law_447 rfl ?_
      refine L_iload_n eL_law_448 rfl ?_
      refine V_iconst eL_law_449 ?_
      refine V_iadd eL_law_450 ?_
      refine V_ialoadX (by omega) hL eL_law_451 ?_
      refine C_vq hC v_L_56 eL_law_452 rfl rfl (fun r w q => ?_)
      obtain ⟨v, F1, A1, er, ew, hty, Q2, hM, hk2⟩ := hk r w q
      subst er ew
      obtain ⟨z, rfl⟩ : ∃ z, v = vi z := hty
      refine L_aload_n eL_law_455 rfl ?_
      refine L_aload_n eL_law_456 rfl ?_
      refine L_iload_n eL_law_457 rfl ?_
      refine V_iconst eL_law_458 ?_
      refine V_iadd eL_law_459 ?_
      refine V_ialoadX (by omega) hL eL_law_460 ?_
      refine L_aload_n eL_law_461 rfl ?_
      refine L_iload_n eL_law_462 rfl ?_
      refine V_iconst eL_law_463 ?_
      refine V_iadd eL_law_464 ?_
      refine V_ialoadX (by omega) hL eL_law_465 ?_
      refine C_vq hM v_L_59 eL_law_466 rfl rfl (fun r w q => ?_)
      obtain ⟨F2, A2, er, ew, hI⟩ := hk2 r w q
      subst er ew
      exact law_eq eL_law_469 (nxt F2 A2 hI)
    · subst hsw
      refine V_tabIn eL_law_33 (by omega) rfl rfl ?_
      obtain ⟨Q1, hC, hk⟩ := Pr.w (pr_force h (k := (gX G ((i : Int) + 1).toNat)) (t := (gX G ((i : Int) + 2).toNat)) (hX _) (hX _)) G
      refine L_aload_n eL_law_474 rfl ?_
      refine L_aload_n eL_law_475 rfl ?_
      refine L_iload_n eL_law_476 rfl ?_
      refine V_iconst eL_law_477 ?_
      refine V_iadd eL_law_478 ?_
      refine V_ialoadX (by omega) hL eL_law_479 ?_
      refine L_aload_n eL_law_480 rfl ?_
      refine L_iload_n eL_law_481 rfl ?_
      refine V_iconst eL_law_482 ?_
      refine V_iadd eL_law_483 ?_
      refine V_ialoadX (by omega) hL eL_law_484 ?_
      refine C_vq hC v_L_60 eL_law_485 rfl rfl (fun r w q => ?_)
      obtain ⟨v, F1, A1, er, ew, hty, Q2, hM, hk2⟩ := hk r w q
      subst er ew
      obtain ⟨z, rfl⟩ : ∃ z, v = vl z := hty
      refine L_aload_n eL_law_488 rfl ?_
      refine L_aload_n eL_law_489 rfl ?_
      refine L_iload_n eL_law_490 rfl ?_
      refine V_iconst eL_law_491 ?_
      refine V_iadd eL_law_492 ?_
      refine V_ialoadX (by omega) hL eL_law_493 ?_
      refine L_aload_n eL_law_494 rfl ?_
      refine L_iload_n eL_law_495 rfl ?_
      refine V_iconst eL_law_496 ?_
      refine V_iadd eL_law_497 ?_
      refine V_ialoadX (by omega) hL eL_law_498 ?_
      refine C_vq hM v_L_64 eL_law_499 rfl rfl (fun r w q => ?_)
      obtain ⟨F2, A2, er, ew, hI⟩ := hk2 r w q
      subst er ew
      exact law_leq eL_law_502 eL_law_503 (nxt F2 A2 hI)
    · subst hsw
      refine V_tabIn eL_law_33 (by omega) rfl rfl ?_
      obtain ⟨Q1, hC, hk⟩ := Pr.w (pr_loop h (t := (gX G ((i : Int) + 1).toNat)) (hX _)) G
      refine L_aload_n eL_law_508 rfl ?_
      refine L_aload_n eL_law_509 rfl ?_
      refine L_iload_n eL_law_510 rfl ?_
      refine V_iconst eL_law_511 ?_
      refine V_iadd eL_law_512 ?_
      refine V_ialoadX (by omega) hL eL_law_513 ?_
      refine C_vq hC v_L_65 eL_law_514 rfl rfl (fun r w q => ?_)
      obtain ⟨v, F1, A1, er, ew, hty, Q2, hM, hk2⟩ := hk r w q
      subst er ew
      obtain ⟨z, rfl⟩ : ∃ z, v = vi z := hty
      refine L_aload_n eL_law_517 rfl ?_
      refine L_aload_n eL_law_518 rfl ?_
      refine L_iload_n eL_law_519 rfl ?_
      refine V_iconst eL_law_520 ?_
      refine V_iadd eL_law_521 ?_
      refine V_ialoadX (by omega) hL eL_law_522 ?_
      refine C_vq hM v_L_68 eL_law_523 rfl rfl (fun r w q => ?_)
      obtain ⟨F2, A2, er, ew, hI⟩ := hk2 r w q
      subst er ew
      exact law_eq eL_law_526 (nxt F2 A2 hI)
    · subst hsw
      refine V_tabIn eL_law_33 (by omega) rfl rfl ?_
      obtain ⟨Q1, hC, hk⟩ := Pr.w (pr_crack h (i := (gX G ((i : Int) + 1).toNat)) (w := (gX G ((i : Int) + 2).toNat)) (hX _) (hX _)) G
      refine L_aload_n eL_law_531 rfl ?_
      refine L_aload_n eL_law_532 rfl ?_
      refine L_iload_n eL_law_533 rfl ?_
      refine V_iconst eL_law_534 ?_
      refine V_iadd eL_law_535 ?_
      refine V_ialoadX (by omega) hL eL_law_536 ?_
      refine L_aload_n eL_law_537 rfl ?_
      refine L_iload_n eL_law_538 rfl ?_
      refine V_iconst eL_law_539 ?_
      refine V_iadd eL_law_540 ?_
      refine V_ialoadX (by omega) hL eL_law_541 ?_
      refine C_vq hC v_L_69 eL_law_542 rfl rfl (fun r w q => ?_)
      obtain ⟨v, F1, A1, er, ew, hty, Q2, hM, hk2⟩ := hk r w q
      subst er ew
      obtain ⟨z, rfl⟩ : ∃ z, v = vi z := hty
      refine L_aload_n eL_law_545 rfl ?_
      refine L_aload_n eL_law_546 rfl ?_
      refine L_iload_n eL_law_547 rfl ?_
      refine V_iconst eL_law_548 ?_
      refine V_iadd eL_law_549 ?_
      refine V_ialoadX (by omega) hL eL_law_550 ?_
      refine L_aload_n eL_law_551 rfl ?_
      refine L_iload_n eL_law_552 rfl ?_
      refine V_iconst eL_law_553 ?_
      refine V_iadd eL_law_554 ?_
      refine V_ialoadX (by omega) hL eL_law_555 ?_
      refine C_vq hM v_L_72 eL_law_556 rfl rfl (fun r w q => ?_)
      obtain ⟨F2, A2, er, ew, hI⟩ := hk2 r w q
      subst er ew
      exact law_eq eL_law_559 (nxt F2 A2 hI)
    · subst hsw
      refine V_tabIn eL_law_33 (by omega) rfl rfl ?_
      obtain ⟨Q1, hC, hk⟩ := Pr.w (pr_kind h) G
      refine L_aload_n eL_law_564 rfl ?_
      refine C_vq hC v_L_73 eL_law_565 rfl rfl (fun r w q => ?_)
      obtain ⟨v, F1, A1, er, ew, hty, Q2, hM, hk2⟩ := hk r w q
      subst er ew
      obtain ⟨z, rfl⟩ : ∃ z, v = vi z := hty
      refine L_aload_n eL_law_568 rfl ?_
      refine C_vq hM v_L_76 eL_law_569 rfl rfl (fun r w q => ?_)
      obtain ⟨F2, A2, er, ew, hI⟩ := hk2 r w q
      subst er ew
      exact law_eq eL_law_572 (nxt F2 A2 hI)
    · subst hsw
      refine V_tabIn eL_law_33 (by omega) rfl rfl ?_
      obtain ⟨Q1, hC, hk⟩ := Pr.w (pr_turns h) G
      refine L_aload_n eL_law_577 rfl ?_
      refine C_vq hC v_L_77 eL_law_578 rfl rfl (fun r w q => ?_)
      obtain ⟨v, F1, A1, er, ew, hty, Q2, hM, hk2⟩ := hk r w q
      subst er ew
      obtain ⟨z, rfl⟩ : ∃ z, v = vi z := hty
      refine L_aload_n eL_law_581 rfl ?_
      refine C_vq hM v_L_80 eL_law_582 rfl rfl (fun r w q => ?_)
      obtain ⟨F2, A2, er, ew, hI⟩ := hk2 r w q
      subst er ew
      exact law_eq eL_law_585 (nxt F2 A2 hI)
    · subst hsw
      refine V_tabIn eL_law_33 (by omega) rfl rfl ?_
      obtain ⟨Q1, hC, hk⟩ := Pr.w (pr_put h (w := (gX G ((i : Int) + 1).toNat)) (x := (gX G ((i : Int) + 2).toNat)) (y := (gX G ((i : Int) + 3).toNat)) (hX _) (hX _) (hX _)) G
      refine L_aload_n eL_law_590 rfl ?_
      refine L_aload_n eL_law_591 rfl ?_
      refine L_iload_n eL_law_592 rfl ?_
      refine V_iconst eL_law_593 ?_
      refine V_iadd eL_law_594 ?_
      refine V_ialoadX (by omega) hL eL_law_595 ?_
      refine L_aload_n eL_law_596 rfl ?_
      refine L_iload_n eL_law_597 rfl ?_
      refine V_iconst eL_law_598 ?_
      refine V_iadd eL_law_599 ?_
      refine V_ialoadX (by omega) hL eL_law_600 ?_
      refine L_aload_n eL_law_601 rfl ?_
      refine L_iload_n eL_law_602 rfl ?_
      refine V_iconst eL_law_603 ?_
      refine V_iadd eL_law_604 ?_
      refine V_ialoadX (by omega) hL eL_law_605 ?_
      refine C_vq hC v_L_81 eL_law_606 rfl rfl (fun r w q => ?_)
      obtain ⟨v, F1, A1, er, ew, hty, Q2, hM, hk2⟩ := hk r w q
      subst er ew
      obtain ⟨z, rfl⟩ : ∃ z, v = vi z := hty
      refine L_aload_n eL_law_609 rfl ?_
      refine L_aload_n eL_law_610 rfl ?_
      refine L_iload_n eL_law_611 rfl ?_
      refine V_iconst eL_law_612 ?_
      refine V_iadd eL_law_613 ?_
      refine V_ialoadX (by omega) hL eL_law_614 ?_
      refine L_aload_n eL_law_615 rfl ?_
      refine L_iload_n eL_law_616 rfl ?_
      refine V_iconst eL_law_617 ?_
      refine V_iadd eL_law_618 ?_
      refine V_ialoadX (by omega) hL eL_law_619 ?_
      refine L_aload_n eL_law_620 rfl ?_
      refine L_iload_n eL_law_621 rfl ?_
      refine V_iconst eL_law_622 ?_
      refine V_iadd eL_law_623 ?_
      refine V_ialoadX (by omega) hL eL_law_624 ?_
      refine C_vq hM v_L_84 eL_law_625 rfl rfl (fun r w q => ?_)
      obtain ⟨F2, A2, er, ew, hI⟩ := hk2 r w q
      subst er ew
      exact law_eq eL_law_628 (nxt F2 A2 hI)
    · subst hsw
      refine V_tabIn eL_law_33 (by omega) rfl rfl ?_
      obtain ⟨Q1, hC, hk⟩ := Pr.w (pr_near h) G
      refine L_aload_n eL_law_633 rfl ?_
      refine C_vq hC v_L_85 eL_law_634 rfl rfl (fun r w q => ?_)
      obtain ⟨v, F1, A1, er, ew, hty, Q2, hM, hk2⟩ := hk r w q
      subst er ew
      obtain ⟨z, rfl⟩ : ∃ z, v = vi z := hty
      refine L_aload_n eL_law_637 rfl ?_
      refine C_vq hM v_L_88 eL_law_638 rfl rfl (fun r w q => ?_)
      obtain ⟨F2, A2, er, ew, hI⟩ := hk2 r w q
      subst er ew
      exact law_eq eL_law_641 (nxt F2 A2 hI)
    · subst hsw
      refine V_tabIn eL_law_33 (by omega) rfl rfl ?_
      obtain ⟨Q1, hC, hk⟩ := pw_leastHand h G
      refine L_aload_n eL_law_646 rfl ?_
      refine C_vq hC v_L_89 eL_law_647 rfl rfl (fun r w q => ?_)
      obtain ⟨v, F1, A1, er, ew, hty, Q2, hM, hk2⟩ := hk r w q
      subst er ew
      obtain ⟨z, rfl⟩ : ∃ z, v = vi z := hty
      refine L_aload_n eL_law_650 rfl ?_
      refine C_vq hM v_L_92 eL_law_651 rfl rfl (fun r w q => ?_)
      obtain ⟨F2, A2, er, ew, hI⟩ := hk2 r w q
      subst er ew
      exact law_eq eL_law_654 (nxt F2 A2 hI)
    · subst hsw
      refine V_tabIn eL_law_33 (by omega) rfl rfl ?_
      obtain ⟨Q1, hC, hk⟩ := pw_loudest h (s := (gX G ((i : Int) + 1).toNat)) (i := (gX G ((i : Int) + 2).toNat)) (hX _) (hX _) G
      refine L_aload_n eL_law_659 rfl ?_
      refine L_aload_n eL_law_660 rfl ?_
      refine L_iload_n eL_law_661 rfl ?_
      refine V_iconst eL_law_662 ?_
      refine V_iadd eL_law_663 ?_
      refine V_ialoadX (by omega) hL eL_law_664 ?_
      refine L_aload_n eL_law_665 rfl ?_
      refine L_iload_n eL_law_666 rfl ?_
      refine V_iconst eL_law_667 ?_
      refine V_iadd eL_law_668 ?_
      refine V_ialoadX (by omega) hL eL_law_669 ?_
      refine C_vq hC v_L_93 eL_law_670 rfl rfl (fun r w q => ?_)
      obtain ⟨v, F1, A1, er, ew, hty, Q2, hM, hk2⟩ := hk r w q
      subst er ew
      obtain ⟨z, rfl⟩ : ∃ z, v = vi z := hty
      refine L_aload_n eL_law_673 rfl ?_
      refine L_aload_n eL_law_674 rfl ?_
      refine L_iload_n eL_law_675 rfl ?_
      refine V_iconst eL_law_676 ?_
      refine V_iadd eL_law_677 ?_
      refine V_ialoadX (by omega) hL eL_law_678 ?_
      refine L_aload_n eL_law_679 rfl ?_
      refine L_iload_n eL_law_680 rfl ?_
      refine V_iconst eL_law_681 ?_
      refine V_iadd eL_law_682 ?_
      refine V_ialoadX (by omega) hL eL_law_683 ?_
      refine C_vq hM v_L_96 eL_law_684 rfl rfl (fun r w q => ?_)
      obtain ⟨F2, A2, er, ew, hI⟩ := hk2 r w q
      subst er ew
      exact law_eq eL_law_687 (nxt F2 A2 hI)
    · subst hsw
      refine V_tabIn eL_law_33 (by omega) rfl rfl ?_
      obtain ⟨Q1, hC, hk⟩ := Pr.w (pr_aim h (x := (gX G ((i : Int) + 1).toNat)) (y := (gX G ((i : Int) + 2).toNat)) (a := (gX G ((i : Int) + 3).toNat)) (b := (gX G ((i : Int) + 4).toNat)) (w := (gX G ((i : Int) + 5).toNat)) (hX _) (hX _) (hX _) (hX _) (hX _)) G
      refine L_aload_n eL_law_692 rfl ?_
      refine L_aload_n eL_law_693 rfl ?_
      refine L_iload_n eL_law_694 rfl ?_
      refine V_iconst eL_law_695 ?_
      refine V_iadd eL_law_696 ?_
      refine V_ialoadX (by omega) hL eL_law_697 ?_
      refine L_aload_n eL_law_698 rfl ?_
      refine L_iload_n eL_law_699 rfl ?_
      refine V_iconst eL_law_700 ?_
      refine V_iadd eL_law_701 ?_
      refine V_ialoadX (by omega) hL eL_law_702 ?_
      refine L_aload_n eL_law_703 rfl ?_
      refine L_iload_n eL_law_704 rfl ?_
      refine V_iconst eL_law_705 ?_
      refine V_iadd eL_law_706 ?_
      refine V_ialoadX (by omega) hL eL_law_707 ?_
      refine L_aload_n eL_law_708 rfl ?_
      refine L_iload_n eL_law_709 rfl ?_
      refine V_iconst eL_law_710 ?_
      refine V_iadd eL_law_711 ?_
      refine V_ialoadX (by omega) hL eL_law_712 ?_
      refine L_aload_n eL_law_713 rfl ?_
      refine L_iload_n eL_law_714 rfl ?_
      refine V_iconst eL_law_715 ?_
      refine V_iadd eL_law_716 ?_
      refine V_ialoadX (by omega) hL eL_law_717 ?_
      refine C_vq hC v_L_97 eL_law_718 rfl rfl (fun r w q => ?_)
      obtain ⟨v, F1, A1, er, ew, hty, Q2, hM, hk2⟩ := hk r w q
      subst er ew
      obtain ⟨z, rfl⟩ : ∃ z, v = vi z := hty
      refine L_aload_n eL_law_721 rfl ?_
      refine L_aload_n eL_law_722 rfl ?_
      refine L_iload_n eL_law_723 rfl ?_
      refine V_iconst eL_law_724 ?_
      refine V_iadd eL_law_725 ?_
      refine V_ialoadX (by omega) hL eL_law_726 ?_
      refine L_aload_n eL_law_727 rfl ?_
      refine L_iload_n eL_law_728 rfl ?_
      refine V_iconst eL_law_729 ?_
      refine V_iadd eL_law_730 ?_
      refine V_ialoadX (by omega) hL eL_law_731 ?_
      refine L_aload_n eL_law_732 rfl ?_
      refine L_iload_n eL_law_733 rfl ?_
      refine V_iconst eL_law_734 ?_
      refine V_iadd eL_law_735 ?_
      refine V_ialoadX (by omega) hL eL_law_736 ?_
      refine L_aload_n eL_law_737 rfl ?_
      refine L_iload_n eL_law_738 rfl ?_
      refine V_iconst eL_law_739 ?_
      refine V_iadd eL_law_740 ?_
      refine V_ialoadX (by omega) hL eL_law_741 ?_
      refine L_aload_n eL_law_742 rfl ?_
      refine L_iload_n eL_law_743 rfl ?_
      refine V_iconst eL_law_744 ?_
      refine V_iadd eL_law_745 ?_
      refine V_ialoadX (by omega) hL eL_law_746 ?_
      refine C_vq hM v_L_101 eL_law_747 rfl rfl (fun r w q => ?_)
      obtain ⟨F2, A2, er, ew, hI⟩ := hk2 r w q
      subst er ew
      exact law_eq eL_law_750 (nxt F2 A2 hI)
    · subst hsw
      refine V_tabIn eL_law_33 (by omega) rfl rfl ?_
      obtain ⟨Q1, hC, hk⟩ := Pr.w (pr_alone h (x := (gX G ((i : Int) + 1).toNat)) (y := (gX G ((i : Int) + 2).toNat)) (hX _) (hX _)) G
      refine L_aload_n eL_law_755 rfl ?_
      refine L_aload_n eL_law_756 rfl ?_
      refine L_iload_n eL_law_757 rfl ?_
      refine V_iconst eL_law_758 ?_
      refine V_iadd eL_law_759 ?_
      refine V_ialoadX (by omega) hL eL_law_760 ?_
      refine L_aload_n eL_law_761 rfl ?_
      refine L_iload_n eL_law_762 rfl ?_
      refine V_iconst eL_law_763 ?_
      refine V_iadd eL_law_764 ?_
      refine V_ialoadX (by omega) hL eL_law_765 ?_
      refine C_vq hC v_L_102 eL_law_766 rfl rfl (fun r w q => ?_)
      obtain ⟨v, F1, A1, er, ew, hty, Q2, hM, hk2⟩ := hk r w q
      subst er ew
      obtain ⟨z, rfl⟩ : ∃ z, v = vi z := hty
      refine L_aload_n eL_law_769 rfl ?_
      refine L_aload_n eL_law_770 rfl ?_
      refine L_iload_n eL_law_771 rfl ?_
      refine V_iconst eL_law_772 ?_
      refine V_iadd eL_law_773 ?_
      refine V_ialoadX (by omega) hL eL_law_774 ?_
      refine L_aload_n eL_law_775 rfl ?_
      refine L_iload_n eL_law_776 rfl ?_
      refine V_iconst eL_law_777 ?_
      refine V_iadd eL_law_778 ?_
      refine V_ialoadX (by omega) hL eL_law_779 ?_
      refine C_vq hM v_L_105 eL_law_780 rfl rfl (fun r w q => ?_)
      obtain ⟨F2, A2, er, ew, hI⟩ := hk2 r w q
      subst er ew
      exact law_eq eL_law_783 (nxt F2 A2 hI)
    · subst hsw
      refine V_tabIn eL_law_33 (by omega) rfl rfl ?_
      obtain ⟨Q1, hC, hk⟩ := pw_bestAim h (x := (gX G ((i : Int) + 1).toNat)) (y := (gX G ((i : Int) + 2).toNat)) (z := (gX G ((i : Int) + 3).toNat)) (hX _) (hX _) (hX _) G
      refine L_aload_n eL_law_788 rfl ?_
      refine L_aload_n eL_law_789 rfl ?_
      refine L_iload_n eL_law_790 rfl ?_
      refine V_iconst eL_law_791 ?_
      refine V_iadd eL_law_792 ?_
      refine V_ialoadX (by omega) hL eL_law_793 ?_
      refine L_aload_n eL_law_794 rfl ?_
      refine L_iload_n eL_law_795 rfl ?_
      refine V_iconst eL_law_796 ?_
      refine V_iadd eL_law_797 ?_
      refine V_ialoadX (by omega) hL eL_law_798 ?_
      refine L_aload_n eL_law_799 rfl ?_
      refine L_iload_n eL_law_800 rfl ?_
      refine V_iconst eL_law_801 ?_
      refine V_iadd eL_law_802 ?_
      refine V_ialoadX (by omega) hL eL_law_803 ?_
      refine C_vq hC v_L_106 eL_law_804 rfl rfl (fun r w q => ?_)
      obtain ⟨v, F1, A1, er, ew, hty, Q2, hM, hk2⟩ := hk r w q
      subst er ew
      obtain ⟨z, rfl⟩ : ∃ z, v = vi z := hty
      refine L_aload_n eL_law_807 rfl ?_
      refine L_aload_n eL_law_808 rfl ?_
      refine L_iload_n eL_law_809 rfl ?_
      refine V_iconst eL_law_810 ?_
      refine V_iadd eL_law_811 ?_
      refine V_ialoadX (by omega) hL eL_law_812 ?_
      refine L_aload_n eL_law_813 rfl ?_
      refine L_iload_n eL_law_814 rfl ?_
      refine V_iconst eL_law_815 ?_
      refine V_iadd eL_law_816 ?_
      refine V_ialoadX (by omega) hL eL_law_817 ?_
      refine L_aload_n eL_law_818 rfl ?_
      refine L_iload_n eL_law_819 rfl ?_
      refine V_iconst eL_law_820 ?_
      refine V_iadd eL_law_821 ?_
      refine V_ialoadX (by omega) hL eL_law_822 ?_
      refine C_vq hM v_L_109 eL_law_823 rfl rfl (fun r w q => ?_)
      obtain ⟨F2, A2, er, ew, hI⟩ := hk2 r w q
      subst er ew
      exact law_eq eL_law_826 (nxt F2 A2 hI)
    · subst hsw
      refine V_tabIn eL_law_33 (by omega) rfl rfl ?_
      obtain ⟨Q1, hC, hk⟩ := pw_close h (d := (gX G ((i : Int) + 1).toNat)) (g := (gX G ((i : Int) + 2).toNat)) (o := (gX G ((i : Int) + 3).toNat)) (hX _) (hX _) (hX _) G
      refine L_aload_n eL_law_831 rfl ?_
      refine L_aload_n eL_law_832 rfl ?_
      refine L_iload_n eL_law_833 rfl ?_
      refine V_iconst eL_law_834 ?_
      refine V_iadd eL_law_835 ?_
      refine V_ialoadX (by omega) hL eL_law_836 ?_
      refine L_aload_n eL_law_837 rfl ?_
      refine L_iload_n eL_law_838 rfl ?_
      refine V_iconst eL_law_839 ?_
      refine V_iadd eL_law_840 ?_
      refine V_ialoadX (by omega) hL eL_law_841 ?_
      refine L_aload_n eL_law_842 rfl ?_
      refine L_iload_n eL_law_843 rfl ?_
      refine V_iconst eL_law_844 ?_
      refine V_iadd eL_law_845 ?_
      refine V_ialoadX (by omega) hL eL_law_846 ?_
      refine C_vq hC v_L_110 eL_law_847 rfl rfl (fun r w q => ?_)
      obtain ⟨v, F1, A1, er, ew, hty, Q2, hM, hk2⟩ := hk r w q
      subst er ew
      obtain ⟨z, rfl⟩ : ∃ z, v = vi z := hty
      refine L_aload_n eL_law_850 rfl ?_
      refine L_aload_n eL_law_851 rfl ?_
      refine L_iload_n eL_law_852 rfl ?_
      refine V_iconst eL_law_853 ?_
      refine V_iadd eL_law_854 ?_
      refine V_ialoadX (by omega) hL eL_law_855 ?_
      refine L_aload_n eL_law_856 rfl ?_
      refine L_iload_n eL_law_857 rfl ?_
      refine V_iconst eL_law_858 ?_
      refine V_iadd eL_law_859 ?_
      refine V_ialoadX (by omega) hL eL_law_860 ?_
      refine L_aload_n eL_law_861 rfl ?_
      refine L_iload_n eL_law_862 rfl ?_
      refine V_iconst eL_law_863 ?_
      refine V_iadd eL_law_864 ?_
      refine V_ialoadX (by omega) hL eL_law_865 ?_
      refine C_vq hM v_L_113 eL_law_866 rfl rfl (fun r w q => ?_)
      obtain ⟨F2, A2, er, ew, hI⟩ := hk2 r w q
      subst er ew
      exact law_eq eL_law_869 (nxt F2 A2 hI)
    · subst hsw
      refine V_tabIn eL_law_33 (by omega) rfl rfl ?_
      obtain ⟨Q1, hC, hk⟩ := pw_rhythm h (d := (gX G ((i : Int) + 1).toNat)) (g := (gX G ((i : Int) + 2).toNat)) (e := (gX G ((i : Int) + 3).toNat)) (c := (gX G ((i : Int) + 4).toNat)) (hX _) (hX _) (hX _) (hX _) G
      refine L_aload_n eL_law_874 rfl ?_
      refine L_aload_n eL_law_875 rfl ?_
      refine L_iload_n eL_law_876 rfl ?_
      refine V_iconst eL_law_877 ?_
      refine V_iadd eL_law_878 ?_
      refine V_ialoadX (by omega) hL eL_law_879 ?_
      refine L_aload_n eL_law_880 rfl ?_
      refine L_iload_n eL_law_881 rfl ?_
      refine V_iconst eL_law_882 ?_
      refine V_iadd eL_law_883 ?_
      refine V_ialoadX (by omega) hL eL_law_884 ?_
      refine L_aload_n eL_law_885 rfl ?_
      refine L_iload_n eL_law_886 rfl ?_
      refine V_iconst eL_law_887 ?_
      refine V_iadd eL_law_888 ?_
      refine V_ialoadX (by omega) hL eL_law_889 ?_
      refine L_aload_n eL_law_890 rfl ?_
      refine L_iload_n eL_law_891 rfl ?_
      refine V_iconst eL_law_892 ?_
      refine V_iadd eL_law_893 ?_
      refine V_ialoadX (by omega) hL eL_law_894 ?_
      refine C_vq hC v_L_114 eL_law_895 rfl rfl (fun r w q => ?_)
      obtain ⟨v, F1, A1, er, ew, hty, Q2, hM, hk2⟩ := hk r w q
      subst er ew
      obtain ⟨z, rfl⟩ : ∃ z, v = vi z := hty
      refine L_aload_n eL_law_898 rfl ?_
      refine L_aload_n eL_law_899 rfl ?_
      refine L_iload_n eL_law_900 rfl ?_
      refine V_iconst eL_law_901 ?_
      refine V_iadd eL_law_902 ?_
      refine V_ialoadX (by omega) hL eL_law_903 ?_
      refine L_aload_n eL_law_904 rfl ?_
      refine L_iload_n eL_law_905 rfl ?_
      refine V_iconst eL_law_906 ?_
      refine V_iadd eL_law_907 ?_
      refine V_ialoadX (by omega) hL eL_law_908 ?_
      refine L_aload_n eL_law_909 rfl ?_
      refine L_iload_n eL_law_910 rfl ?_
      refine V_iconst eL_law_911 ?_
      refine V_iadd eL_law_912 ?_
      refine V_ialoadX (by omega) hL eL_law_913 ?_
      refine L_aload_n eL_law_914 rfl ?_
      refine L_iload_n eL_law_915 rfl ?_
      refine V_iconst eL_law_916 ?_
      refine V_iadd eL_law_917 ?_
      refine V_ialoadX (by omega) hL eL_law_918 ?_
      refine C_vq hM v_L_118 eL_law_919 rfl rfl (fun r w q => ?_)
      obtain ⟨F2, A2, er, ew, hI⟩ := hk2 r w q
      subst er ew
      exact law_eq eL_law_922 (nxt F2 A2 hI)
    · subst hsw
      refine V_tabIn eL_law_33 (by omega) rfl rfl ?_
      obtain ⟨Q1, hC, hk⟩ := Pr.w (pr_crackOn h) G
      refine L_aload_n eL_law_927 rfl ?_
      refine C_vq hC v_L_119 eL_law_928 rfl rfl (fun r w q => ?_)
      obtain ⟨v, F1, A1, er, ew, hty, Q2, hM, hk2⟩ := hk r w q
      subst er ew
      obtain ⟨z, rfl⟩ : ∃ z, v = vi z := hty
      refine L_aload_n eL_law_931 rfl ?_
      refine C_vq hM v_L_122 eL_law_932 rfl rfl (fun r w q => ?_)
      obtain ⟨F2, A2, er, ew, hI⟩ := hk2 r w q
      subst er ew
      exact law_eq eL_law_935 (nxt F2 A2 hI)
    · subst hsw
      refine V_tabIn eL_law_33 (by omega) rfl rfl ?_
      obtain ⟨Q1, hC, hk⟩ := Pr.w (pr_evening h (N := (gX G ((i : Int) + 1).toNat)) (hX _)) G
      refine L_aload_n eL_law_940 rfl ?_
      refine L_aload_n eL_law_941 rfl ?_
      refine L_iload_n eL_law_942 rfl ?_
      refine V_iconst eL_law_943 ?_
      refine V_iadd eL_law_944 ?_
      refine V_ialoadX (by omega) hL eL_law_945 ?_
      refine C_vq hC v_L_123 eL_law_946 rfl rfl (fun r w q => ?_)
      obtain ⟨v, F1, A1, er, ew, hty, Q2, hM, hk2⟩ := hk r w q
      subst er ew
      obtain ⟨z, rfl⟩ : ∃ z, v = vi z := hty
      refine L_aload_n eL_law_949 rfl ?_
      refine L_aload_n eL_law_950 rfl ?_
      refine L_iload_n eL_law_951 rfl ?_
      refine V_iconst eL_law_952 ?_
      refine V_iadd eL_law_953 ?_
      refine V_ialoadX (by omega) hL eL_law_954 ?_
      refine C_vq hM v_L_126 eL_law_955 rfl rfl (fun r w q => ?_)
      obtain ⟨F2, A2, er, ew, hI⟩ := hk2 r w q
      subst er ew
      exact law_eq eL_law_958 (nxt F2 A2 hI)
    · subst hsw
      refine V_tabIn eL_law_33 (by omega) rfl rfl ?_
      obtain ⟨Q1, hC, hk⟩ := Pr.w (pr_lay h (w := (gX G ((i : Int) + 1).toNat)) (x := (gX G ((i : Int) + 2).toNat)) (hX _) (hX _)) G
      refine L_aload_n eL_law_963 rfl ?_
      refine L_aload_n eL_law_964 rfl ?_
      refine L_iload_n eL_law_965 rfl ?_
      refine V_iconst eL_law_966 ?_
      refine V_iadd eL_law_967 ?_
      refine V_ialoadX (by omega) hL eL_law_968 ?_
      refine L_aload_n eL_law_969 rfl ?_
      refine L_iload_n eL_law_970 rfl ?_
      refine V_iconst eL_law_971 ?_
      refine V_iadd eL_law_972 ?_
      refine V_ialoadX (by omega) hL eL_law_973 ?_
      refine C_vq hC v_L_127 eL_law_974 rfl rfl (fun r w q => ?_)
      obtain ⟨v, F1, A1, er, ew, hty, Q2, hM, hk2⟩ := hk r w q
      subst er ew
      obtain ⟨z, rfl⟩ : ∃ z, v = vi z := hty
      refine L_aload_n eL_law_977 rfl ?_
      refine L_aload_n eL_law_978 rfl ?_
      refine L_iload_n eL_law_979 rfl ?_
      refine V_iconst eL_law_980 ?_
      refine V_iadd eL_law_981 ?_
      refine V_ialoadX (by omega) hL eL_law_982 ?_
      refine L_aload_n eL_law_983 rfl ?_
      refine L_iload_n eL_law_984 rfl ?_
      refine V_iconst eL_law_985 ?_
      refine V_iadd eL_law_986 ?_
      refine V_ialoadX (by omega) hL eL_law_987 ?_
      refine C_vq hM v_L_130 eL_law_988 rfl rfl (fun r w q => ?_)
      obtain ⟨F2, A2, er, ew, hI⟩ := hk2 r w q
      subst er ew
      exact law_eq eL_law_991 (nxt F2 A2 hI)
    · subst hsw
      refine V_tabIn eL_law_33 (by omega) rfl rfl ?_
      obtain ⟨Q1, hC, hk⟩ := Pr.w (pr_clear h) G
      refine L_aload_n eL_law_996 rfl ?_
      refine C_vq hC v_L_131 eL_law_997 rfl rfl (fun r w q => ?_)
      obtain ⟨v, F1, A1, er, ew, hty, Q2, hM, hk2⟩ := hk r w q
      subst er ew
      obtain ⟨z, rfl⟩ : ∃ z, v = vi z := hty
      refine L_aload_n eL_law_1000 rfl ?_
      refine C_vq hM v_L_134 eL_law_1001 rfl rfl (fun r w q => ?_)
      obtain ⟨F2, A2, er, ew, hI⟩ := hk2 r w q
      subst er ew
      exact law_eq eL_law_1004 (nxt F2 A2 hI)
    · subst hsw
      refine V_tabIn eL_law_33 (by omega) rfl rfl ?_
      obtain ⟨Q1, hC, hk⟩ := pw_cut h G
      refine L_aload_n eL_law_1009 rfl ?_
      refine C_vq hC v_L_135 eL_law_1010 rfl rfl (fun r w q => ?_)
      obtain ⟨v, F1, A1, er, ew, hty, Q2, hM, hk2⟩ := hk r w q
      subst er ew
      obtain ⟨z, rfl⟩ : ∃ z, v = vi z := hty
      refine L_aload_n eL_law_1013 rfl ?_
      refine C_vq hM v_L_138 eL_law_1014 rfl rfl (fun r w q => ?_)
      obtain ⟨F2, A2, er, ew, hI⟩ := hk2 r w q
      subst er ew
      exact law_eq eL_law_1017 (nxt F2 A2 hI)
    · subst hsw
      refine V_tabIn eL_law_33 (by omega) rfl rfl ?_
      obtain ⟨Q1, hC, hk⟩ := Pr.w (pr_film h (x := (gX G ((i : Int) + 1).toNat)) (y := (gX G ((i : Int) + 2).toNat)) (hX _) (hX _)) G
      refine L_aload_n eL_law_1022 rfl ?_
      refine L_aload_n eL_law_1023 rfl ?_
      refine L_iload_n eL_law_1024 rfl ?_
      refine V_iconst eL_law_1025 ?_
      refine V_iadd eL_law_1026 ?_
      refine V_ialoadX (by omega) hL eL_law_1027 ?_
      refine L_aload_n eL_law_1028 rfl ?_
      refine L_iload_n eL_law_1029 rfl ?_
      refine V_iconst eL_law_1030 ?_
      refine V_iadd eL_law_1031 ?_
      refine V_ialoadX (by omega) hL eL_law_1032 ?_
      refine C_vq hC v_L_139 eL_law_1033 rfl rfl (fun r w q => ?_)
      obtain ⟨v, F1, A1, er, ew, hty, Q2, hM, hk2⟩ := hk r w q
      subst er ew
      obtain ⟨z, rfl⟩ : ∃ z, v = vi z := hty
      refine L_aload_n eL_law_1036 rfl ?_
      refine L_aload_n eL_law_1037 rfl ?_
      refine L_iload_n eL_law_1038 rfl ?_
      refine V_iconst eL_law_1039 ?_
      refine V_iadd eL_law_1040 ?_
      refine V_ialoadX (by omega) hL eL_law_1041 ?_
      refine L_aload_n eL_law_1042 rfl ?_
      refine L_iload_n eL_law_1043 rfl ?_
      refine V_iconst eL_law_1044 ?_
      refine V_iadd eL_law_1045 ?_
      refine V_ialoadX (by omega) hL eL_law_1046 ?_
      refine C_vq hM v_L_142 eL_law_1047 rfl rfl (fun r w q => ?_)
      obtain ⟨F2, A2, er, ew, hI⟩ := hk2 r w q
      subst er ew
      exact law_eq eL_law_1050 (nxt F2 A2 hI)
    · subst hsw
      refine V_tabIn eL_law_33 (by omega) rfl rfl ?_
      obtain ⟨Q1, hC, hk⟩ := Pr.w (pr_blank h) G
      refine L_aload_n eL_law_1055 rfl ?_
      refine C_vq hC v_L_143 eL_law_1056 rfl rfl (fun r w q => ?_)
      obtain ⟨v, F1, A1, er, ew, hty, Q2, hM, hk2⟩ := hk r w q
      subst er ew
      obtain ⟨z, rfl⟩ : ∃ z, v = vi z := hty
      refine L_aload_n eL_law_1059 rfl ?_
      refine C_vq hM v_L_146 eL_law_1060 rfl rfl (fun r w q => ?_)
      obtain ⟨F2, A2, er, ew, hI⟩ := hk2 r w q
      subst er ew
      exact law_eq eL_law_1063 (nxt F2 A2 hI)
    · subst hsw
      refine V_tabIn eL_law_33 (by omega) rfl rfl ?_
      obtain ⟨Q1, hC, hk⟩ := pw_told h (w := (gX G ((i : Int) + 1).toNat)) (hX _) G
      refine L_aload_n eL_law_1068 rfl ?_
      refine L_aload_n eL_law_1069 rfl ?_
      refine L_iload_n eL_law_1070 rfl ?_
      refine V_iconst eL_law_1071 ?_
      refine V_iadd eL_law_1072 ?_
      refine V_ialoadX (by omega) hL eL_law_1073 ?_
      refine C_vq hC v_L_147 eL_law_1074 rfl rfl (fun r w q => ?_)
      obtain ⟨v, F1, A1, er, ew, hty, Q2, hM, hk2⟩ := hk r w q
      subst er ew
      obtain ⟨z, rfl⟩ : ∃ z, v = vi z := hty
      refine L_aload_n eL_law_1077 rfl ?_
      refine L_aload_n eL_law_1078 rfl ?_
      refine L_iload_n eL_law_1079 rfl ?_
      refine V_iconst eL_law_1080 ?_
      refine V_iadd eL_law_1081 ?_
      refine V_ialoadX (by omega) hL eL_law_1082 ?_
      refine C_vq hM v_L_150 eL_law_1083 rfl rfl (fun r w q => ?_)
      obtain ⟨F2, A2, er, ew, hI⟩ := hk2 r w q
      subst er ew
      exact law_eq eL_law_1086 (nxt F2 A2 hI)
    · subst hsw
      refine V_tabIn eL_law_33 (by omega) rfl rfl ?_
      obtain ⟨Q1, hC, hk⟩ := pw_keep h (z := (gX G ((i : Int) + 1).toNat)) (hX _) G
      refine L_aload_n eL_law_1091 rfl ?_
      refine L_aload_n eL_law_1092 rfl ?_
      refine L_iload_n eL_law_1093 rfl ?_
      refine V_iconst eL_law_1094 ?_
      refine V_iadd eL_law_1095 ?_
      refine V_ialoadX (by omega) hL eL_law_1096 ?_
      refine C_vq hC v_L_151 eL_law_1097 rfl rfl (fun r w q => ?_)
      obtain ⟨v, F1, A1, er, ew, hty, Q2, hM, hk2⟩ := hk r w q
      subst er ew
      obtain ⟨z, rfl⟩ : ∃ z, v = vi z := hty
      refine L_aload_n eL_law_1100 rfl ?_
      refine L_aload_n eL_law_1101 rfl ?_
      refine L_iload_n eL_law_1102 rfl ?_
      refine V_iconst eL_law_1103 ?_
      refine V_iadd eL_law_1104 ?_
      refine V_ialoadX (by omega) hL eL_law_1105 ?_
      refine C_vq hM v_L_154 eL_law_1106 rfl rfl (fun r w q => ?_)
      obtain ⟨F2, A2, er, ew, hI⟩ := hk2 r w q
      subst er ew
      exact law_eq eL_law_1109 (nxt F2 A2 hI)
    · subst hsw
      refine V_tabIn eL_law_33 (by omega) rfl rfl ?_
      obtain ⟨Q1, hC, hk⟩ := pw_goBack h (z := (gX G ((i : Int) + 1).toNat)) (hX _) G
      refine L_aload_n eL_law_1114 rfl ?_
      refine L_aload_n eL_law_1115 rfl ?_
      refine L_iload_n eL_law_1116 rfl ?_
      refine V_iconst eL_law_1117 ?_
      refine V_iadd eL_law_1118 ?_
      refine V_ialoadX (by omega) hL eL_law_1119 ?_
      refine C_vq hC v_L_155 eL_law_1120 rfl rfl (fun r w q => ?_)
      obtain ⟨v, F1, A1, er, ew, hty, Q2, hM, hk2⟩ := hk r w q
      subst er ew
      obtain ⟨z, rfl⟩ : ∃ z, v = vi z := hty
      refine L_aload_n eL_law_1123 rfl ?_
      refine L_aload_n eL_law_1124 rfl ?_
      refine L_iload_n eL_law_1125 rfl ?_
      refine V_iconst eL_law_1126 ?_
      refine V_iadd eL_law_1127 ?_
      refine V_ialoadX (by omega) hL eL_law_1128 ?_
      refine C_vq hM v_L_158 eL_law_1129 rfl rfl (fun r w q => ?_)
      obtain ⟨F2, A2, er, ew, hI⟩ := hk2 r w q
      subst er ew
      exact law_eq eL_law_1132 (nxt F2 A2 hI)

