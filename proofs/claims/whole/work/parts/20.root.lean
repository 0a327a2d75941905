/-! the greatest whole number whose square is not above n -/
def rtN : Nat → Nat
  | 0 => 0
  | n + 1 => if (rtN n + 1) * (rtN n + 1) ≤ n + 1 then rtN n + 1 else rtN n
def rt (n : Int) : Int := (rtN n.toNat : Int)
theorem rtN_le : ∀ n : Nat, rtN n * rtN n ≤ n := by
  intro n
  induction n with
  | zero => exact Nat.le_refl _
  | succ n ih =>
    rw [rtN]
    split
    · assumption
    · omega
theorem rtN_lt : ∀ n : Nat, n < (rtN n + 1) * (rtN n + 1) := by
  intro n
  induction n with
  | zero => decide
  | succ n ih =>
    rw [rtN]
    split
    · rename_i h
      have : (rtN n + 1 + 1) * (rtN n + 1 + 1) = (rtN n + 1) * (rtN n + 1) + 2 * (rtN n + 1) + 1 := by
        rw [Nat.add_mul, Nat.mul_add]; omega
      omega
    · omega
theorem rt_nn (n : Int) : 0 ≤ rt n := Int.natCast_nonneg _
theorem rt_le {n : Int} (h : 0 ≤ n) : rt n * rt n ≤ n := by
  have h1 := rtN_le n.toNat
  have h2 : ((rtN n.toNat * rtN n.toNat : Nat) : Int) ≤ (n.toNat : Int) := by exact_mod_cast h1
  rw [Int.natCast_mul] at h2
  unfold rt
  omega
theorem rt_lt {n : Int} (h : 0 ≤ n) : n < (rt n + 1) * (rt n + 1) := by
  have h1 := rtN_lt n.toNat
  have h2 : (n.toNat : Int) < (((rtN n.toNat + 1) * (rtN n.toNat + 1) : Nat) : Int) := by exact_mod_cast h1
  rw [Int.natCast_mul] at h2
  have h3 : ((rtN n.toNat + 1 : Nat) : Int) = rt n + 1 := by unfold rt; omega
  rw [h3] at h2
  omega
theorem sq_le {a b : Int} (h0 : 0 ≤ a) (h : a ≤ b) : a * a ≤ b * b := Int.mul_self_le_mul_self h0 h
theorem sq_lt {a b : Int} (h0 : 0 ≤ b) (h : a * a < b * b) : a < b := by
  by_cases h1 : a < b
  · exact h1
  · have := sq_le h0 (by omega : b ≤ a)
    omega
theorem rt_eq {n r : Int} (h : 0 ≤ n) (h0 : 0 ≤ r) (h1 : r * r ≤ n) (h2 : n < (r + 1) * (r + 1)) : rt n = r := by
  have a1 := rt_le h
  have a2 := rt_lt h
  have a3 := rt_nn n
  have b1 : rt n < r + 1 := sq_lt (by omega) (by omega)
  have b2 : r < rt n + 1 := sq_lt (by omega) (by omega)
  omega
theorem rt_mono {a b : Int} (h : 0 ≤ a) (hab : a ≤ b) : rt a ≤ rt b := by
  have a1 := rt_le h
  have a2 := rt_lt (n := b) (by omega)
  have := rt_nn b
  have : rt a < rt b + 1 := sq_lt (by omega) (by omega)
  omega
theorem rt_ge {n r : Int} (h : 0 ≤ n) (h0 : 0 ≤ r) : r ≤ rt n ↔ r * r ≤ n := by
  constructor
  · intro h1
    have := sq_le h0 h1
    have := rt_le h
    omega
  · intro h1
    have := rt_lt h
    have := rt_nn n
    have : r < rt n + 1 := sq_lt (by omega) (by omega)
    omega
section P20
variable {G : gT} {F : fT} {A : nT}
/-- the reference's root, by halves -/
theorem p_X11_root {v : Int} (hv : 0 ≤ v ∧ v < 9000000000000000000) : Pu G mX11_root [vl v] F A (vl (rt v)) := by
  refine L_ent [some (vl v), none, none, none, none, none, none, none] rfl ?_
  refine L_lconst0 eX11_root_0 ?_
  refine L_lstore_n eX11_root_1 (t_2 rfl) ?_
  refine L_ldc2 eX11_root_2 k_X11_142 ?_
  refine L_lstore eX11_root_5 (t_4 rfl) ?_
  have LOOP : ∀ (r : Nat) (low high : Int) (x y : Option Value), (high - low).toNat < r → 0 ≤ low → low ≤ high → high ≤ 3000000000 → low * low ≤ v → v < (high + 1) * (high + 1) → V G mX11_root (fun r' w => r' = some (vl (rt v)) ∧ w = sw F A) 0 0 7 [some (vl v), none, some (vl low), none, some (vl high), none, x, y] [] (sw F A) := by
    intro r
    induction r with
    | zero => intro low high x y h; omega
    | succ r ih =>
      intro low high x y hr h0 h1 h2 h3 h4
      refine L_lload_n eX11_root_7 rfl ?_
      refine L_lload eX11_root_8 rfl ?_
      -- at 10: .lcmp
      refine V_lcmpge eX11_root_10 eX11_root_11 (fun h => ?_) (fun h => ?_)
      · have e : low = high := by omega
        subst e
        refine L_lload_n eX11_root_51 rfl ?_
        -- at 52: .lreturn
        exact V_lreturn eX11_root_52 ⟨by rw [rt_eq hv.1 h0 h3 h4], rfl⟩
      · refine L_lload_n eX11_root_14 rfl ?_
        refine L_lload eX11_root_15 rfl ?_
        refine V_ladd eX11_root_17 ?_
        refine L_lconst1 eX11_root_18 ?_
        refine V_ladd eX11_root_19 ?_
        refine L_ldc2 eX11_root_20 k_X11_144 ?_
        refine V_ldiv eX11_root_23 ?_
        refine V.genl (fun mid hmid => ?_)
        rw [Int.tdiv_eq_ediv_of_nonneg (by omega)] at hmid
        have hm1 := sq_le (a := mid) (b := 3000000000) (by omega) (by omega)
        have hm2 := sq_le (a := 0) (b := mid) (by omega) (by omega)
        refine L_lstore eX11_root_24 (t_6 rfl) ?_
        refine L_lload eX11_root_26 rfl ?_
        refine L_lload eX11_root_28 rfl ?_
        refine V_lmul eX11_root_30 ?_
        refine L_lload_n eX11_root_31 rfl ?_
        -- at 32: .lcmp
        refine V_lcmpgt eX11_root_32 eX11_root_33 (fun h5 => ?_) (fun h5 => ?_)
        · refine L_lload eX11_root_42 rfl ?_
          refine L_lconst1 eX11_root_44 ?_
          refine V_lsub eX11_root_45 ?_
          refine L_lstore eX11_root_46 (t_4 rfl) ?_
          refine V_goto eX11_root_48 ?_
          refine ih low (mid - 1) _ _ (by omega) h0 (by omega) (by omega) h3 ?_
          rw [show mid - 1 + 1 = mid by omega]
          omega
        · refine L_lload eX11_root_36 rfl ?_
          refine L_lstore_n eX11_root_38 (t_2 rfl) ?_
          refine V_goto eX11_root_39 ?_
          refine V_goto eX11_root_48 ?_
          exact ih mid high _ _ (by omega) (by omega) (by omega) h2 (by omega) h4
  exact LOOP _ 0 3000000000 _ _ (Nat.lt_succ_self _) (by omega) (by omega) (by omega) (by omega) (by omega)
end P20

