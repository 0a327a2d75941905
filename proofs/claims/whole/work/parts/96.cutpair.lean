section P96
variable {F : fT} {A : nT} {c h set : Nat} {H L H' L' : Int → Int}
theorem Rr_c (hH : ∀ k : Nat, k < h → H k = H' k) (hL : ∀ k : Nat, k < c → L k = L' k) : ∀ (k : Nat) (S : Nat), k ≤ h → (Rr set H L c k S ↔ Rr set H' L' c k S) := by
  have es : ∀ m, sB L c m = sB L' c m := fun m => sI_c c (fun j hj => by rw [hL j hj])
  intro k
  induction k with
  | zero => intro S _; exact Iff.rfl
  | succ k ih =>
    intro S hk
    constructor
    · rintro (a | ⟨b, s, m, b1, b2, b3, b4⟩)
      · exact Or.inl ((ih S (by omega)).mp a)
      · exact Or.inr ⟨b, s, m, b1, b2, by rw [← es, ← hH k (by omega)]; exact b3, (ih s (by omega)).mp b4⟩
    · rintro (a | ⟨b, s, m, b1, b2, b3, b4⟩)
      · exact Or.inl ((ih S (by omega)).mpr a)
      · exact Or.inr ⟨b, s, m, b1, b2, by rw [es, hH k (by omega)]; exact b3, (ih s (by omega)).mpr b4⟩
theorem m_cut {G : gT} (hh : F 66 49 = h) (h6 : h ≤ 6) (hc : F 66 50 = c) (c8 : c ≤ 8) (eH : A 93 = H) (eL : A 94 = L) (hH : ∀ k : Int, 0 ≤ k → k < h → 1 ≤ H k ∧ H k ≤ 999) (hL : ∀ k : Int, 0 ≤ k → k < c → 1 ≤ L k ∧ L k ≤ 999) : Meets G mX11_cut [.ref 66] (sw F A) (fun r w => ∃ I N b, r = some (vi b) ∧ w = sw F (s2 A 94 I N) ∧ isB (fun t => Rr t H L c h (2 ^ c - 1)) (2 ^ h) b) := by
  refine L_ent [some (.ref 66), none, none] rfl ?_
  generalize hQ : (fun (r : Option Value) (w : wT) => ∃ I N b, r = some (vi b) ∧ w = sw F (s2 A 94 I N) ∧ isB (fun t => Rr t H L c h (2 ^ c - 1)) (2 ^ h) b) = Q
  have p64 : 2 ^ h ≤ 64 := Nat.le_trans (Nat.pow_le_pow_right (by decide) h6) (by decide)
  have hone : (iShl 1 (F 66 49)) = ((2 ^ h : Nat) : Int) := by rw [hh]; exact iShl1 (by omega)
  have hpl : ∀ t, t < 2 ^ h → pcN t ≤ h := fun t ht => pc_le ⟨h, by omega⟩ ⟨t, by omega⟩ ht
  generalize 2 ^ h = p at p64 hone hQ hpl
  have MANY : ∀ (r j : Nat) (I N : Int → Int) (x2 : Option Value), j + r = h + 1 → (∀ t, t < p → pcN t < j → ¬ Rr t H L c h (2 ^ c - 1)) → V G mX11_cut Q 0 0 2 [some (.ref 66), some (vi (j : Int)), x2] [] (sw F (s2 A 94 I N)) := by
    intro r
    induction r with
    | zero =>
      intro j I N x2 e1 no
      refine L_iload_n eX11_cut_2 rfl ?_
      refine L_aload_n eX11_cut_3 rfl ?_
      refine L_get eX11_cut_4 f_X11_275.g rfl rfl ?_
      -- at 7: .if_icmp .gt 45
      refine V_icmpgt eX11_cut_7 (fun h2 => ?_) (fun h2 => ?_)
      · refine V_iconst eX11_cut_52 ?_
        -- at 53: .ireturn
        exact V_ireturn eX11_cut_53 (by rw [← hQ]; exact ⟨I, N, -1, rfl, rfl, Or.inl ⟨rfl, fun t ht => no t ht (by have := hpl t ht; omega)⟩⟩)
      · omega
    | succ r ih =>
      intro j I N x2 e1 no
      have SETS : ∀ (q n : Nat) (I N : Int → Int), n + q = p → (∀ t, t < n → pcN t = j → ¬ Rr t H L c h (2 ^ c - 1)) → V G mX11_cut Q 0 0 12 [some (.ref 66), some (vi (j : Int)), some (vi (n : Int))] [] (sw F (s2 A 94 I N)) := by
        intro q
        induction q with
        | zero =>
          intro n I N q1 q2
          have e : n = p := by omega
          subst e
          refine L_iload_n eX11_cut_12 rfl ?_
          refine V_iconst eX11_cut_13 ?_
          refine L_aload_n eX11_cut_14 rfl ?_
          refine L_get eX11_cut_15 f_X11_275.g rfl rfl ?_
          refine V_ishl eX11_cut_18 ?_
          rw [hone]
          refine V_icmpge eX11_cut_19 (fun h3 => ?_) (fun h3 => ?_)
          · refine L_iinc eX11_cut_46 rfl (s_1 rfl rfl) ?_
            refine V_goto eX11_cut_49 ?_
            have := ih (j + 1) I N (some (vi (n : Int))) (by omega) (fun t ht hp => ?_)
            · exact this
            · by_cases f : pcN t = j
              · exact q2 t ht f
              · exact no t ht (by omega)
          · omega
        | succ q ihq =>
          intro n I N q1 q2
          have pn := hpl n (by omega)
          have nxt : ∀ I N : Int → Int, ¬ (pcN n = j ∧ Rr n H L c h (2 ^ c - 1)) → V G mX11_cut Q 0 0 40 [some (.ref 66), some (vi (j : Int)), some (vi (n : Int))] [] (sw F (s2 A 94 I N)) := by
            intro I N q
            refine L_iinc eX11_cut_40 rfl (s_2 rfl rfl) ?_
            refine V_goto eX11_cut_43 ?_
            have := ihq (n + 1) I N (by omega) (fun t ht hp => ?_)
            · exact this
            · by_cases f : t = n
              · subst f; exact fun y => q ⟨hp, y⟩
              · exact q2 t (by omega) hp
          refine L_iload_n eX11_cut_12 rfl ?_
          refine V_iconst eX11_cut_13 ?_
          refine L_aload_n eX11_cut_14 rfl ?_
          refine L_get eX11_cut_15 f_X11_275.g rfl rfl ?_
          refine V_ishl eX11_cut_18 ?_
          rw [hone]
          refine V_icmpge eX11_cut_19 (fun h3 => ?_) (fun h3 => ?_)
          · omega
          · refine L_iload_n eX11_cut_22 rfl ?_
            refine C_s1 (p_X11_ones (m := n) (by omega)) v_X11_419 eX11_cut_23 rfl ?_
            refine L_iload_n eX11_cut_26 rfl ?_
            -- at 27: .if_icmp .ne 13
            refine V_icmpne eX11_cut_27 (fun h4 => ?_) (fun h4 => ?_)
            · exact nxt I N (fun y => by omega)
            · refine L_aload_n eX11_cut_30 rfl ?_
              refine L_iload_n eX11_cut_31 rfl ?_
              refine C_vq (m_canCut (G := G) (F := F) (A := s2 A 94 I N) (set := n) (h := h) (c := c) (H := H) (L := L) hh h6 hc c8 (by omega) (by rw [s2_o (by decide)]; exact eH) (by rw [s2_o (by decide)]; exact eL) hH hL) v_X11_422 eX11_cut_32 rfl rfl (fun r' w' e' => ?_)
              obtain ⟨I', N', bb, er, ew, eb⟩ := e'
              subst er ew
              rw [s2_s2]
              rcases eb with ⟨eb, hE⟩ | ⟨eb, hE⟩
              · subst eb
                refine V_ifeq eX11_cut_35 (fun h5 => ?_) (fun h5 => ?_)
                · omega
                · refine L_iload_n eX11_cut_38 rfl ?_
                  -- at 39: .ireturn
                  exact V_ireturn eX11_cut_39 (by
                    rw [← hQ]
                    refine ⟨I', N', _, rfl, rfl, Or.inr ⟨n, by omega, rfl, hE, fun t ht et => ?_⟩⟩
                    by_cases f : pcN t < pcN n
                    · exact absurd et (no t ht (by omega))
                    · by_cases g : pcN t = j ∧ t < n
                      · exact absurd et (q2 t g.2 g.1)
                      · omega)
              · subst eb
                refine V_ifeq eX11_cut_35 (fun h5 => ?_) (fun h5 => ?_)
                · exact nxt I' N' (fun y => hE y.2)
                · omega
      refine L_iload_n eX11_cut_2 rfl ?_
      refine L_aload_n eX11_cut_3 rfl ?_
      refine L_get eX11_cut_4 f_X11_275.g rfl rfl ?_
      -- at 7: .if_icmp .gt 45
      refine V_icmpgt eX11_cut_7 (fun h2 => ?_) (fun h2 => ?_)
      · omega
      · refine V_iconst eX11_cut_10 ?_
        refine L_istore_n eX11_cut_11 (s_2 rfl rfl) ?_
        exact SETS p 0 I N (by omega) (fun t ht => by omega)
  refine V_iconst eX11_cut_0 ?_
  refine L_istore_n eX11_cut_1 (s_1 rfl rfl) ?_
  have := MANY (h + 1) 0 (A 95) (A 96) none (by omega) (fun t ht hp => by omega)
  rw [show s2 A 94 (A 95) (A 96) = A from s2_self] at this
  exact this
theorem pw_cut (h : Iv F A) : Pw mX10_cut mX11_cut [] F A := by
  have hn := h.hn
  have cn := h.cn
  obtain ⟨hs, ehs⟩ : ∃ hs : Nat, F 59 0 = hs := ⟨(F 59 0).toNat, by omega⟩
  obtain ⟨c, ec⟩ : ∃ c : Nat, F 59 1 = c := ⟨(F 59 1).toNat, by omega⟩
  have hH : ∀ k : Int, 0 ≤ k → k < hs → 1 ≤ A 60 k ∧ A 60 k ≤ 999 := fun k a b => (h.hd k a (by omega)).2
  have hL : ∀ k : Int, 0 ≤ k → k < c → 1 ≤ A 61 k ∧ A 61 k ≤ 999 := fun k a b => (h.ct k a (by omega)).2
  intro G
  refine ⟨(fun r w => ∃ R b, r = some (vi b) ∧ w = sw F (sA A 62 R) ∧ isB (fun t => Rr t (A 60) (A 61) c hs (2 ^ c - 1)) (2 ^ hs) b), ?_, fun r w e => ?_⟩
  · refine L_ent [some (.ref 0)] rfl ?_
    refine L_aload_n eX10_cut_0 rfl ?_
    refine L_getR (r := 59) eX10_cut_1 f_X10_63.g rfl rfl (by decide) ?_
    refine C_vq (m_fewest (G := G) ehs (by omega) ec (by omega) rfl rfl hH hL) v_X10_300 eX10_cut_4 rfl rfl (fun r' w' e' => ?_)
    obtain ⟨R, b, er, ew, eb⟩ := e'
    subst er ew
    exact V_ireturn eX10_cut_7 ⟨R, b, rfl, rfl, eb⟩
  · obtain ⟨R, b, er, ew, eb⟩ := e
    have a93 : sA A 62 R 93 = A 93 := sA_ne (by decide)
    have a94 : sA A 62 R 94 = A 94 := sA_ne (by decide)
    refine ⟨vi b, F, sA A 62 R, er, ew, ty_v, _, m_cut (G := G) (F := F) (A := sA A 62 R) (h := hs) (c := c) (H := A 93) (L := A 94) (by omega) (by omega) (by omega) (by omega) a93 a94 (fun k x y => by rw [(h.hd k x (by omega)).1]; exact hH k x y) (fun k x y => by rw [(h.ct k x (by omega)).1]; exact hL k x y), fun r' w' e' => ?_⟩
    obtain ⟨I, N, b', er', ew', eb'⟩ := e'
    have ebb : isB (fun t => Rr t (A 60) (A 61) c hs (2 ^ c - 1)) (2 ^ hs) b' := by
      have hR : ∀ t, (Rr t (A 93) (A 94) c hs (2 ^ c - 1) ↔ Rr t (A 60) (A 61) c hs (2 ^ c - 1)) := fun t => Rr_c (fun k hk => (h.hd k (by omega) (by omega)).1) (fun k hk => (h.ct k (by omega) (by omega)).1) hs _ (Nat.le_refl _)
      rw [show (fun t => Rr t (A 93) (A 94) c hs (2 ^ c - 1)) = (fun t => Rr t (A 60) (A 61) c hs (2 ^ c - 1)) from funext (fun t => propext (hR t))] at eb'
      exact eb'
    have : b' = b := isB_u ebb eb
    subst this
    refine ⟨F, s2 (sA A 62 R) 94 I N, er', ew', ?_⟩
    have fo : ∀ o, o ≠ 62 → o ≠ 95 → o ≠ 96 → s2 (sA A 62 R) 94 I N o = A o := fun o x y z => by rw [s2_o (by omega), sA_ne x]
    refine h.fr ⟨fun o k e => rfl, fun o e => ?_⟩ h.ear h.post h.tx ?_ h.fa h.hn ?_ h.cn ?_ h.fn ?_
    · have := kRA_in e
      exact fo o (by omega) (by omega) (by omega)
    · rw [fo 73 (by decide) (by decide) (by decide), fo 29 (by decide) (by decide) (by decide)]; exact h.txb
    · rw [fo 93 (by decide) (by decide) (by decide), fo 60 (by decide) (by decide) (by decide)]; exact h.hd
    · rw [fo 94 (by decide) (by decide) (by decide), fo 61 (by decide) (by decide) (by decide)]; exact h.ct
    · rw [fo 97 (by decide) (by decide) (by decide), fo 98 (by decide) (by decide) (by decide), fo 64 (by decide) (by decide) (by decide), fo 65 (by decide) (by decide) (by decide)]; exact h.fi
end P96

