/-! WAYS: the ops are run, in the reference -/
def frRw (F F1 : fT) (A A1 : nT) : Prop := (∀ o k, (o ≠ 66 ∨ (k ≠ 36 ∧ k ≠ 37)) → F1 o k = F o k) ∧ ∀ o, o < 80 ∨ 83 < o → A1 o = A o
theorem frRw.tr {F F1 F2 : fT} {A A1 A2 : nT} (h : frRw F F1 A A1) (g : frRw F1 F2 A1 A2) : frRw F F2 A A2 := ⟨fun o k x => by rw [g.1 o k x]; exact h.1 o k x, fun o x => by rw [g.2 o x]; exact h.2 o x⟩
def lpK (A : nT) : List (Nat × Int) → Prop
  | [] => True
  | e :: ls => (A 80 ls.length = e.1 ∧ A 81 ls.length = e.2) ∧ lpK A ls
theorem lp_up {A A1 : nT} : ∀ ls : List (Nat × Int), lpK A ls → (∀ i : Nat, i < ls.length → A1 80 i = A 80 i ∧ A1 81 i = A 81 i) → lpK A1 ls := by
  intro ls
  induction ls with
  | nil => intro _ _; trivial
  | cons e ls ih =>
    intro h g
    have g0 := g ls.length (by rw [List.length_cons]; omega)
    exact ⟨by rw [g0.1, g0.2]; exact h.1, ih h.2 (fun i hi => g i (by rw [List.length_cons]; omega))⟩
section P99t
variable {F : fT} {A : nT} {l : poT}
theorem m_runStep {G : gT} {Q : Option Value → wT → Prop} {m k : Nat} {d ux uy t : Int} {x3 x4 x5 : Option Value} (hk : k < 64) (hm : l.length = m + 1) (h0 : F 66 36 = m) (hp : prK A 82 83 l) (ht : 1 ≤ t ∧ t ≤ 30) (hux : ab 999 ux) (huy : ab 999 uy) (cap : (m : Int) + t ≤ 60) (r77 : A 77 k = ux) (r78 : A 78 k = uy) (r79 : A 79 k = t) (nx : ∀ (F1 : fT) (A1 : nT) (x3 x4 x5 : Option Value), (∀ o k, (o ≠ 66 ∨ (k ≠ 36 ∧ k ≠ 37)) → F1 o k = F o k) → (∀ o, o < 82 ∨ 83 < o → A1 o = A o) → F1 66 36 = m + t → F1 66 37 = F 66 37 + 1 → prK A1 82 83 (ptS l (ux, uy, t)) → V G mX11_runWay Q 0 0 267 [some (.ref 66), some (vi d), some (vi k), x3, x4, x5] [] (sw F1 A1)) : V G mX11_runWay Q 0 0 140 [some (.ref 66), some (vi d), some (vi k), x3, x4, x5] [] (sw F A) := by
  have LOOP : ∀ (r j : Nat) (A1 : nT), (j : Int) + r = t → (∀ o, o < 82 ∨ 83 < o → A1 o = A o) → prK A1 82 83 (l ++ ptL (lsP l) (ux, uy, t) j) → V G mX11_runWay Q 0 0 164 [some (.ref 66), some (vi d), some (vi k), some (vi (lsP l).1), some (vi (lsP l).2), some (vi ((j : Int) + 1))] [] (sw F A1) := by
    intro r
    induction r with
    | zero =>
      intro j A1 e1 ea pr
      have s79 : A1 79 k = t := by rw [ea 79 (by decide)]; exact r79
      refine L_iload eX11_runWay_164 rfl ?_
      refine L_aload_n eX11_runWay_166 rfl ?_
      refine L_getR (r := 79) eX11_runWay_167 f_X11_50.g rfl rfl (by decide) ?_
      refine L_iload_n eX11_runWay_170 rfl ?_
      refine L_iald eX11_runWay_171 rfl ?_
      -- at 172: .if_icmp .gt 70
      refine V_icmpgt eX11_runWay_172 (fun h2 => ?_) (fun h2 => ?_)
      · refine L_aload_n eX11_runWay_242 rfl ?_
        refine L_dup eX11_runWay_243 ?_
        refine L_get eX11_runWay_244 f_X11_234.g rfl rfl ?_
        refine L_aload_n eX11_runWay_247 rfl ?_
        refine L_getR (r := 79) eX11_runWay_248 f_X11_50.g rfl rfl (by decide) ?_
        refine L_iload_n eX11_runWay_251 rfl ?_
        refine L_iald eX11_runWay_252 rfl ?_
        refine V_iadd eX11_runWay_253 ?_
        refine L_put eX11_runWay_254 f_X11_234 rfl rfl ?_
        refine L_aload_n eX11_runWay_257 rfl ?_
        refine L_dup eX11_runWay_258 ?_
        refine L_get eX11_runWay_259 f_X11_237.g rfl rfl ?_
        refine V_iconst eX11_runWay_262 ?_
        refine V_iadd eX11_runWay_263 ?_
        refine L_put eX11_runWay_264 f_X11_237 rfl rfl ?_
        rw [s79, h0]
        refine nx _ A1 _ _ _ (fun o k q => by rw [uF_ne (by omega), uF_ne (by omega)]) ea (by rw [uF_ne (by decide), uF_eq]) (by rw [uF_eq, uF_ne (by decide)]) ?_
        unfold ptS
        rw [show (ux, uy, t).2.2.toNat = j by show t.toNat = j; omega]
        exact pr
      · omega
    | succ r ih =>
      intro j A1 e1 ea pr
      have s77 : A1 77 k = ux := by rw [ea 77 (by decide)]; exact r77
      have s78 : A1 78 k = uy := by rw [ea 78 (by decide)]; exact r78
      have s79 : A1 79 k = t := by rw [ea 79 (by decide)]; exact r79
      have bx := ab_mul (C := 30) hux (show 0 ≤ (j : Int) + 1 by omega) (by omega)
      have by' := ab_mul (C := 30) huy (show 0 ≤ (j : Int) + 1 by omega) (by omega)
      unfold ab at bx by'
      refine L_iload eX11_runWay_164 rfl ?_
      refine L_aload_n eX11_runWay_166 rfl ?_
      refine L_getR (r := 79) eX11_runWay_167 f_X11_50.g rfl rfl (by decide) ?_
      refine L_iload_n eX11_runWay_170 rfl ?_
      refine L_iald eX11_runWay_171 rfl ?_
      -- at 172: .if_icmp .gt 70
      refine V_icmpgt eX11_runWay_172 (fun h2 => ?_) (fun h2 => ?_)
      · omega
      refine L_aload_n eX11_runWay_175 rfl ?_
      refine L_getR (r := 82) eX11_runWay_176 f_X11_59.g rfl rfl (by decide) ?_
      refine L_aload_n eX11_runWay_179 rfl ?_
      refine L_get eX11_runWay_180 f_X11_234.g rfl rfl ?_
      refine L_iload eX11_runWay_183 rfl ?_
      refine V_iadd eX11_runWay_185 ?_
      refine L_iload_n eX11_runWay_186 rfl ?_
      refine L_aload_n eX11_runWay_187 rfl ?_
      refine L_getR (r := 77) eX11_runWay_188 f_X11_44.g rfl rfl (by decide) ?_
      refine L_iload_n eX11_runWay_191 rfl ?_
      refine L_iald eX11_runWay_192 rfl ?_
      refine L_iload eX11_runWay_193 rfl ?_
      rw [s77]
      refine V_imul eX11_runWay_195 ?_
      refine L_aload_n eX11_runWay_196 rfl ?_
      refine L_getR (r := 79) eX11_runWay_197 f_X11_50.g rfl rfl (by decide) ?_
      refine L_iload_n eX11_runWay_200 rfl ?_
      refine L_iald eX11_runWay_201 rfl ?_
      rw [s79]
      refine V_idiv eX11_runWay_202 ?_
      refine V_iadd eX11_runWay_203 ?_
      refine L_iast eX11_runWay_204 rfl ?_
      obtain ⟨A2, eA2⟩ : ∃ A2, A2 = sA A1 82 (uI (A1 82) (F 66 36 + ((j : Int) + 1)) ((lsP l).1 + (ux * ((j : Int) + 1)).tdiv t)) := ⟨_, rfl⟩
      rw [← eA2]
      have u78 : A2 78 k = uy := by rw [eA2, sA_ne (by decide)]; exact s78
      have u79 : A2 79 k = t := by rw [eA2, sA_ne (by decide)]; exact s79
      refine L_aload_n eX11_runWay_205 rfl ?_
      refine L_getR (r := 83) eX11_runWay_206 f_X11_62.g rfl rfl (by decide) ?_
      refine L_aload_n eX11_runWay_209 rfl ?_
      refine L_get eX11_runWay_210 f_X11_234.g rfl rfl ?_
      refine L_iload eX11_runWay_213 rfl ?_
      refine V_iadd eX11_runWay_215 ?_
      refine L_iload eX11_runWay_216 rfl ?_
      refine L_aload_n eX11_runWay_218 rfl ?_
      refine L_getR (r := 78) eX11_runWay_219 f_X11_47.g rfl rfl (by decide) ?_
      refine L_iload_n eX11_runWay_222 rfl ?_
      refine L_iald eX11_runWay_223 rfl ?_
      refine L_iload eX11_runWay_224 rfl ?_
      rw [u78]
      refine V_imul eX11_runWay_226 ?_
      refine L_aload_n eX11_runWay_227 rfl ?_
      refine L_getR (r := 79) eX11_runWay_228 f_X11_50.g rfl rfl (by decide) ?_
      refine L_iload_n eX11_runWay_231 rfl ?_
      refine L_iald eX11_runWay_232 rfl ?_
      rw [u79]
      refine V_idiv eX11_runWay_233 ?_
      refine V_iadd eX11_runWay_234 ?_
      refine L_iast eX11_runWay_235 rfl ?_
      refine L_iinc eX11_runWay_236 rfl (s_5 rfl rfl) ?_
      refine V_goto eX11_runWay_239 ?_
      refine ih (j + 1) _ (by omega) (fun o q => by rw [sA_ne (by omega), eA2, sA_ne (by omega)]; exact ea o q) ?_
      have := pr.add (x := ptN (lsP l) (ux, uy, t) j) (by omega) (show (l ++ ptL (lsP l) (ux, uy, t) j).length = m + 1 + j by rw [List.length_append, ptL_len, hm])
      rw [ptL_s, ← List.append_assoc, eA2, sA_ne (A := A1) (o := 82) (o' := 83) (by decide), h0, show (m : Int) + ((j : Int) + 1) = ((m + 1 + j : Nat) : Int) by omega]
      exact this
  have hp' : prK A 82 83 (l ++ []) := by rw [List.append_nil]; exact hp
  have hls := hp'.ls hm
  refine L_aload_n eX11_runWay_140 rfl ?_
  refine L_getR (r := 82) eX11_runWay_141 f_X11_59.g rfl rfl (by decide) ?_
  refine L_aload_n eX11_runWay_144 rfl ?_
  refine L_get eX11_runWay_145 f_X11_234.g rfl rfl ?_
  refine L_iald eX11_runWay_148 rfl ?_
  refine L_istore_n eX11_runWay_149 (s_3 rfl rfl) ?_
  refine L_aload_n eX11_runWay_150 rfl ?_
  refine L_getR (r := 83) eX11_runWay_151 f_X11_62.g rfl rfl (by decide) ?_
  refine L_aload_n eX11_runWay_154 rfl ?_
  refine L_get eX11_runWay_155 f_X11_234.g rfl rfl ?_
  refine L_iald eX11_runWay_158 rfl ?_
  refine L_istore eX11_runWay_159 (s_4 rfl rfl) ?_
  refine V_iconst eX11_runWay_161 ?_
  refine L_istore eX11_runWay_162 (s_5 rfl rfl) ?_
  rw [h0, hls.1, hls.2]
  exact LOOP t.toNat 0 A (by omega) (fun _ _ => rfl) hp'
end P99t

