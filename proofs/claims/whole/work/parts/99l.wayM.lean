/-! WAYS told in a text: the reference's ops -/
def opR (F : fT) (A : nT) (O : List opT) : Prop := F 66 27 = O.length ∧ ∀ (i : Nat) (o : opT), O[i]? = some o → A 76 i = o.1 ∧ A 77 i = o.2.1 ∧ A 78 i = o.2.2.1 ∧ A 79 i = o.2.2.2
def frZ (F F1 : fT) (A A1 : nT) : Prop := (∀ o k, (o ≠ 66 ∨ ((k < 17 ∨ 21 < k) ∧ k ≠ 27)) → F1 o k = F o k) ∧ ∀ o, o < 76 ∨ 79 < o → A1 o = A o
theorem frZ.of {F F1 : fT} {A : nT} (h : fr66 F F1) : frZ F F1 A A := ⟨fun o k a => h o k (by omega), fun _ _ => rfl⟩
theorem frZ.tr {F F1 F2 : fT} {A A1 A2 : nT} (h : frZ F F1 A A1) (g : frZ F1 F2 A1 A2) : frZ F F2 A A2 := ⟨fun o k x => by rw [g.1 o k x]; exact h.1 o k x, fun o x => by rw [g.2 o x]; exact h.2 o x⟩
theorem opR.fr {F F1 : fT} {A : nT} {O : List opT} (h : opR F A O) (e : F1 66 27 = F 66 27) : opR F1 A O := ⟨by rw [e]; exact h.1, h.2⟩
section P99l
variable {F : fT} {A : nT} {O : List opT}
theorem m_addOp_f {G : gT} {k x y t : Int} (hb : 0 ≤ F 66 20 ∧ F 66 20 ≤ 9) (hf : F 66 20 ≠ 0) : Mu G mX11_addOp [.ref 66, vi k, vi x, vi y, vi t] F A none F A := by
  refine L_ent [some (.ref 66), some (vi k), some (vi x), some (vi y), some (vi t)] rfl ?_
  refine L_aload_n eX11_addOp_0 rfl ?_
  refine L_get eX11_addOp_1 f_X11_164.g rfl rfl ?_
  -- at 4: .ifCond .ne 54
  refine V_ifne eX11_addOp_4 (fun h2 => ?_) (fun h2 => ?_)
  · exact V_return eX11_addOp_58 ⟨rfl, rfl⟩
  · omega
theorem m_addOp {G : gT} {o : opT} (hk : F 66 20 = 0) (h : opR F A O) (hl : O.length < 64) : Meets G mX11_addOp [.ref 66, vi o.1, vi o.2.1, vi o.2.2.1, vi o.2.2.2] (sw F A) (fun r w => ∃ F1 A1, r = none ∧ w = sw F1 A1 ∧ (∀ o k, (o ≠ 66 ∨ k ≠ 27) → F1 o k = F o k) ∧ (∀ o, o < 76 ∨ 79 < o → A1 o = A o) ∧ opR F1 A1 (O ++ [o])) := by
  obtain ⟨h0, hr⟩ := h
  refine L_ent [some (.ref 66), some (vi o.1), some (vi o.2.1), some (vi o.2.2.1), some (vi o.2.2.2)] rfl ?_
  refine L_aload_n eX11_addOp_0 rfl ?_
  refine L_get eX11_addOp_1 f_X11_164.g rfl rfl ?_
  -- at 4: .ifCond .ne 54
  refine V_ifne eX11_addOp_4 (fun h2 => ?_) (fun h2 => ?_)
  · omega
  refine L_aload_n eX11_addOp_7 rfl ?_
  refine L_getR (r := 76) eX11_addOp_8 f_X11_41.g rfl rfl (by decide) ?_
  refine L_aload_n eX11_addOp_11 rfl ?_
  refine L_get eX11_addOp_12 f_X11_224.g rfl rfl ?_
  refine L_iload_n eX11_addOp_15 rfl ?_
  refine L_iast eX11_addOp_16 rfl ?_
  refine L_aload_n eX11_addOp_17 rfl ?_
  refine L_getR (r := 77) eX11_addOp_18 f_X11_44.g rfl rfl (by decide) ?_
  refine L_aload_n eX11_addOp_21 rfl ?_
  refine L_get eX11_addOp_22 f_X11_224.g rfl rfl ?_
  refine L_iload_n eX11_addOp_25 rfl ?_
  refine L_iast eX11_addOp_26 rfl ?_
  refine L_aload_n eX11_addOp_27 rfl ?_
  refine L_getR (r := 78) eX11_addOp_28 f_X11_47.g rfl rfl (by decide) ?_
  refine L_aload_n eX11_addOp_31 rfl ?_
  refine L_get eX11_addOp_32 f_X11_224.g rfl rfl ?_
  refine L_iload_n eX11_addOp_35 rfl ?_
  refine L_iast eX11_addOp_36 rfl ?_
  refine L_aload_n eX11_addOp_37 rfl ?_
  refine L_getR (r := 79) eX11_addOp_38 f_X11_50.g rfl rfl (by decide) ?_
  refine L_aload_n eX11_addOp_41 rfl ?_
  refine L_get eX11_addOp_42 f_X11_224.g rfl rfl ?_
  refine L_iload eX11_addOp_45 rfl ?_
  refine L_iast eX11_addOp_47 rfl ?_
  refine L_aload_n eX11_addOp_48 rfl ?_
  refine L_dup eX11_addOp_49 ?_
  refine L_get eX11_addOp_50 f_X11_224.g rfl rfl ?_
  refine V_iconst eX11_addOp_53 ?_
  refine V_iadd eX11_addOp_54 ?_
  refine L_put eX11_addOp_55 f_X11_224 rfl rfl ?_
  refine V_return eX11_addOp_58 ?_
  refine ⟨_, _, rfl, rfl, fun o k q => uF_ne q, fun o q => by rw [sA_ne (by omega), sA_ne (by omega), sA_ne (by omega), sA_ne (by omega)], ?_, fun i x e => ?_⟩
  · rw [uF_eq, h0, List.length_append]
    rfl
  · simp [sA]
    by_cases c : i < O.length
    · rw [List.getElem?_append_left c] at e
      have cne : (i : Int) ≠ F 66 27 := by omega
      rw [uI_ne cne, uI_ne cne, uI_ne cne, uI_ne cne]
      exact hr i x e
    · rw [List.getElem?_append_right (by omega)] at e
      by_cases c2 : i = O.length
      · have ei : (i : Int) = F 66 27 := by omega
        rw [c2, Nat.sub_self] at e
        have := Option.some.inj e
        subst this
        rw [ei, uI_eq, uI_eq, uI_eq, uI_eq]
        exact ⟨rfl, rfl, rfl, rfl⟩
      · rw [List.getElem?_eq_none (by show 1 ≤ _; omega)] at e
        exact absurd e (by simp)
end P99l

