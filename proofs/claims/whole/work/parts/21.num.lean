/-! THE CLASS: numbers: the greatest divisor, lowest terms, full, why, join, chance (printed by wip/whole/p21.py) -/
def zgc (a b : Int) : Int := (Nat.gcd a.toNat b.toNat : Int)
theorem zgc_0 {a : Int} (ha : 0 ≤ a) : zgc a 0 = a := by
  unfold zgc
  show ((Nat.gcd a.toNat 0 : Nat) : Int) = a
  rw [Nat.gcd_zero_right]
  omega
theorem zgc_s {a b : Int} (ha : 0 ≤ a) (hb : 0 < b) : zgc a b = zgc b (a % b) := by
  unfold zgc
  have e : (a % b).toNat = a.toNat % b.toNat := by
    have h1 : ((a.toNat % b.toNat : Nat) : Int) = a % b := by
      rw [Int.natCast_emod, Int.toNat_of_nonneg ha, Int.toNat_of_nonneg (by omega)]
    omega
  rw [e, Nat.gcd_comm a.toNat b.toNat, Nat.gcd_rec b.toNat a.toNat, Nat.gcd_comm]
theorem zgc_p {a b : Int} (h : 0 < a ∨ 0 < b) : 0 < zgc a b := by
  unfold zgc
  have : 0 < Nat.gcd a.toNat b.toNat := by
    rcases h with h | h
    · exact Nat.gcd_pos_of_pos_left _ (by omega)
    · exact Nat.gcd_pos_of_pos_right _ (by omega)
  omega
theorem zgc_le {a b : Int} (ha : 0 < a) : zgc a b ≤ a := by
  unfold zgc
  have : Nat.gcd a.toNat b.toNat ≤ a.toNat := Nat.gcd_le_left _ (by omega)
  omega
theorem zgc_le2 {a b : Int} (hb : 0 < b) : zgc a b ≤ b := by
  unfold zgc
  have : Nat.gcd a.toNat b.toNat ≤ b.toNat := Nat.gcd_le_right _ (by omega)
  omega
theorem zhalf {l r : Int} (hr : 0 < r) (hrl : r < l) : 2 * (l % r) < l := by
  have h1 := Int.emod_lt_of_pos l hr
  have h2 := Int.emod_nonneg l (show r ≠ 0 by omega)
  have h3 := Int.mul_ediv_add_emod l r
  have h4 : 1 ≤ l / r := by
    have := Int.ediv_le_ediv hr (show r ≤ l by omega)
    rw [Int.ediv_self (by omega)] at this
    exact this
  have h5 : r * 1 ≤ r * (l / r) := Int.mul_le_mul_of_nonneg_left h4 (by omega)
  omega
section
variable {g : zG} {N : Nat} {M : zM}
set_option maxRecDepth 20000 in
set_option maxHeartbeats 2000000 in
theorem kX9_gdL {a b x0 l0 : Int} : ∀ (k : Nat) (i x l : Int) (w9 w10 : zv), i + 2 * k ≤ 999 → 0 ≤ i → 0 ≤ x ∧ x ≤ 4611686018427387904 → 0 ≤ l ∧ l ≤ 4611686018427387904 → l < 2 ^ k → zgc x0 l0 = zgc x l → zV g xX9_greatestDivisor (zPp (zl (zgc x0 l0)) N M) 9 [zl a, (3, 0), zl b, (3, 0), zl x, (3, 0), zl l, (3, 0), zi i, w9, w10] [] N M 0 0 := by
  intro k
  induction k with
  | zero =>
    intro i x l w9 w10 h0 h1 h2 h3 h4 h5
    have e0 : l = 0 := by
      have : l < 1 := h4
      omega
    refine zV_iload (pc := 9) dX9_greatestDivisor_9 rfl ?_
    refine zV_sipush (pc := 11) dX9_greatestDivisor_11 (by decide) ?_
    refine zV_icmp_ge (pc := 14) (tgt := 45) dX9_greatestDivisor_14 (by decide) (by omega) (fun c_14 => absurd c_14 (by omega)) (fun c_14 => ?_)
    refine zV_lload (pc := 17) dX9_greatestDivisor_17 rfl ?_
    refine zV_lconst0 (pc := 19) dX9_greatestDivisor_19 ?_
    refine zV_lcmp (pc := 20) dX9_greatestDivisor_20 (by omega) ?_
    refine zV_if_eqc (pc := 21) (tgt := 45) dX9_greatestDivisor_21 (by decide) (fun c_21 => ?_) (fun c_21 => absurd e0 c_21)
    refine zV_lload (pc := 45) dX9_greatestDivisor_45 rfl ?_
    refine zV_lret (pc := 47) dX9_greatestDivisor_47 trivial ⟨Nat.zero_le _, Nat.zero_le _⟩ ?_
    exact zPl (by rw [h5, e0, zgc_0 h2.1])
  | succ k ih =>
    intro i x l w9 w10 h0 h1 h2 h3 h4 h5
    refine zV_iload (pc := 9) dX9_greatestDivisor_9 rfl ?_
    refine zV_sipush (pc := 11) dX9_greatestDivisor_11 (by decide) ?_
    refine zV_icmp_ge (pc := 14) (tgt := 45) dX9_greatestDivisor_14 (by decide) (by omega) (fun c_14 => absurd c_14 (by omega)) (fun c_14 => ?_)
    refine zV_lload (pc := 17) dX9_greatestDivisor_17 rfl ?_
    refine zV_lconst0 (pc := 19) dX9_greatestDivisor_19 ?_
    refine zV_lcmp (pc := 20) dX9_greatestDivisor_20 (by omega) ?_
    refine zV_if_eqc (pc := 21) (tgt := 45) dX9_greatestDivisor_21 (by decide) (fun c_21 => ?_) (fun c_21 => ?_)
    · refine zV_lload (pc := 45) dX9_greatestDivisor_45 rfl ?_
      refine zV_lret (pc := 47) dX9_greatestDivisor_47 trivial ⟨Nat.zero_le _, Nat.zero_le _⟩ ?_
      exact zPl (by rw [h5, c_21, zgc_0 h2.1])
    · refine zV_lload (pc := 24) dX9_greatestDivisor_24 rfl ?_
      refine zV_lload (pc := 26) dX9_greatestDivisor_26 rfl ?_
      refine zV_lremN (pc := 28) dX9_greatestDivisor_28 (by omega) (by omega) ?_
      refine zV_lstore (pc := 29) dX9_greatestDivisor_29 rfl ?_
      try dsimp only [List.set_cons_succ, List.set_cons_zero]
      refine zV_lload (pc := 31) dX9_greatestDivisor_31 rfl ?_
      refine zV_lstore (pc := 33) dX9_greatestDivisor_33 rfl ?_
      try dsimp only [List.set_cons_succ, List.set_cons_zero]
      refine zV_lload (pc := 35) dX9_greatestDivisor_35 rfl ?_
      refine zV_lstore (pc := 37) dX9_greatestDivisor_37 rfl ?_
      try dsimp only [List.set_cons_succ, List.set_cons_zero]
      refine zV_iinc (pc := 39) dX9_greatestDivisor_39 rfl rfl ?_
      try dsimp only [List.set_cons_succ, List.set_cons_zero]
      refine zV_goto (pc := 42) (tgt := 9) dX9_greatestDivisor_42 (by decide) ?_
      have hm1 := Int.emod_lt_of_pos x (show 0 < l by omega)
      have hm2 := Int.emod_nonneg x (show l ≠ 0 by omega)
      refine zV_iload (pc := 9) dX9_greatestDivisor_9 rfl ?_
      refine zV_sipush (pc := 11) dX9_greatestDivisor_11 (by decide) ?_
      refine zV_icmp_ge (pc := 14) (tgt := 45) dX9_greatestDivisor_14 (by decide) (by omega) (fun e_14 => absurd e_14 (by omega)) (fun e_14 => ?_)
      refine zV_lload (pc := 17) dX9_greatestDivisor_17 rfl ?_
      refine zV_lconst0 (pc := 19) dX9_greatestDivisor_19 ?_
      refine zV_lcmp (pc := 20) dX9_greatestDivisor_20 (by omega) ?_
      refine zV_if_eqc (pc := 21) (tgt := 45) dX9_greatestDivisor_21 (by decide) (fun e_21 => ?_) (fun e_21 => ?_)
      · refine zV_lload (pc := 45) dX9_greatestDivisor_45 rfl ?_
        refine zV_lret (pc := 47) dX9_greatestDivisor_47 trivial ⟨Nat.zero_le _, Nat.zero_le _⟩ ?_
        exact zPl (by rw [h5, zgc_s h2.1 (by omega), e_21, zgc_0 h3.1])
      · refine zV_lload (pc := 24) dX9_greatestDivisor_24 rfl ?_
        refine zV_lload (pc := 26) dX9_greatestDivisor_26 rfl ?_
        refine zV_lremN (pc := 28) dX9_greatestDivisor_28 (by omega) (by omega) ?_
        refine zV_lstore (pc := 29) dX9_greatestDivisor_29 rfl ?_
        try dsimp only [List.set_cons_succ, List.set_cons_zero]
        refine zV_lload (pc := 31) dX9_greatestDivisor_31 rfl ?_
        refine zV_lstore (pc := 33) dX9_greatestDivisor_33 rfl ?_
        try dsimp only [List.set_cons_succ, List.set_cons_zero]
        refine zV_lload (pc := 35) dX9_greatestDivisor_35 rfl ?_
        refine zV_lstore (pc := 37) dX9_greatestDivisor_37 rfl ?_
        try dsimp only [List.set_cons_succ, List.set_cons_zero]
        refine zV_iinc (pc := 39) dX9_greatestDivisor_39 rfl rfl ?_
        try dsimp only [List.set_cons_succ, List.set_cons_zero]
        refine zV_goto (pc := 42) (tgt := 9) dX9_greatestDivisor_42 (by decide) ?_
        have hm3 := Int.emod_lt_of_pos l (show 0 < x % l by omega)
        have hm4 := Int.emod_nonneg l (show x % l ≠ 0 by omega)
        refine ih (i + 1 + 1) (x % l) (l % (x % l)) _ _ (by omega) (by omega) (by omega) (by omega) ?_ ?_
        · have h9 := zhalf (l := l) (r := x % l) (by omega) (by omega)
          rw [Int.pow_succ] at h4
          omega
        · rw [h5, zgc_s h2.1 (by omega), zgc_s h3.1 (by omega)]
set_option maxRecDepth 20000 in
set_option maxHeartbeats 2000000 in
theorem kX9_gd {a b : Int} (ha : 0 ≤ a ∧ a ≤ 4611686018427387904) (hb : 0 ≤ b ∧ b ≤ 4611686018427387904) : zK g yX9_greatestDivisor xX9_greatestDivisor [zl a, zl b] N M (zPp (zl (zgc a b)) N M) := by
  refine zK_of (ls0 := [zl a, (3, 0), zl b, (3, 0), (3, 0), (3, 0), (3, 0), (3, 0), (3, 0), (3, 0), (3, 0)]) (by decide) rfl (by decide) rfl (Nat.le_of_ble_eq_true rfl) ?_
  refine zV_lload_n (pc := 0) (i := 0) dX9_greatestDivisor_0 rfl rfl ?_
  refine zV_lstore (pc := 1) dX9_greatestDivisor_1 rfl ?_
  try dsimp only [List.set_cons_succ, List.set_cons_zero]
  refine zV_lload_n (pc := 3) (i := 2) dX9_greatestDivisor_3 rfl rfl ?_
  refine zV_lstore (pc := 4) dX9_greatestDivisor_4 rfl ?_
  try dsimp only [List.set_cons_succ, List.set_cons_zero]
  refine zV_iconst (pc := 6) dX9_greatestDivisor_6 ?_
  refine zV_istore (pc := 7) dX9_greatestDivisor_7 rfl ?_
  try dsimp only [List.set_cons_succ, List.set_cons_zero]
  exact kX9_gdL 63 0 a b _ _ (by omega) (by omega) ha hb (by omega) rfl
set_option maxRecDepth 20000 in
set_option maxHeartbeats 2000000 in
theorem kX9_ilt {a b k : Int} (ha : 0 ≤ a ∧ a ≤ 4611686018427387904) (hb : 1 ≤ b ∧ b ≤ 4611686018427387904) (hk : -2147483648 ≤ k ∧ k ≤ 2147483647) : zK g yX9_inLowestTerms xX9_inLowestTerms [zl a, zl b, zi k] N M (zPp (zl (if k = 0 then a / zgc a b else b / zgc a b)) N M) := by
  refine zK_of (ls0 := [zl a, (3, 0), zl b, (3, 0), zi k, (3, 0), (3, 0), (3, 0), (3, 0)]) (by decide) rfl (by decide) rfl (Nat.le_of_ble_eq_true rfl) ?_
  refine zV_lload_n (pc := 0) (i := 0) dX9_inLowestTerms_0 rfl rfl ?_
  refine zV_lload_n (pc := 1) (i := 2) dX9_inLowestTerms_1 rfl rfl ?_
  refine zV_isp (pc := 2) dX9_inLowestTerms_2 klX9_309 mX9_greatestDivisor rfl ⟨Nat.zero_le _, Nat.zero_le _⟩ (kX9_gd ha (by omega)) rfl rfl (Nat.le_of_ble_eq_true rfl) ?_
  have hg := zgc_p (a := a) (b := b) (Or.inr (by omega))
  have hg2 := zgc_le2 (a := a) (b := b) (by omega)
  refine zV_lstore (pc := 5) dX9_inLowestTerms_5 rfl ?_
  try dsimp only [List.set_cons_succ, List.set_cons_zero]
  refine zV_iload (pc := 7) dX9_inLowestTerms_7 rfl ?_
  refine zV_if_ne (pc := 9) (tgt := 16) dX9_inLowestTerms_9 (by decide) (by omega) (fun c_9 => ?_) (fun c_9 => ?_)
  · refine zV_lload_n (pc := 16) (i := 2) dX9_inLowestTerms_16 rfl rfl ?_
    refine zV_lstore (pc := 17) dX9_inLowestTerms_17 rfl ?_
    try dsimp only [List.set_cons_succ, List.set_cons_zero]
    refine zV_lload (pc := 19) dX9_inLowestTerms_19 rfl ?_
    refine zV_lconst0 (pc := 21) dX9_inLowestTerms_21 ?_
    refine zV_lcmp (pc := 22) dX9_inLowestTerms_22 (by omega) ?_
    refine zV_if_lec (pc := 23) (tgt := 34) dX9_inLowestTerms_23 (by decide) (fun c_23 => absurd c_23 (by omega)) (fun c_23 => ?_)
    refine zV_lload (pc := 26) dX9_inLowestTerms_26 rfl ?_
    refine zV_lload (pc := 28) dX9_inLowestTerms_28 rfl ?_
    refine zV_ldivN (pc := 30) dX9_inLowestTerms_30 (by omega) (by omega) ?_
    refine zV_goto (pc := 31) (tgt := 36) dX9_inLowestTerms_31 (by decide) ?_
    refine zV_lret (pc := 36) dX9_inLowestTerms_36 trivial ⟨Nat.zero_le _, Nat.zero_le _⟩ ?_
    first
      | exact zPl (by rw [if_pos (by omega)])
      | exact zPl (by rw [if_neg (by omega)])
  · refine zV_lload_n (pc := 12) (i := 0) dX9_inLowestTerms_12 rfl rfl ?_
    refine zV_goto (pc := 13) (tgt := 17) dX9_inLowestTerms_13 (by decide) ?_
    refine zV_lstore (pc := 17) dX9_inLowestTerms_17 rfl ?_
    try dsimp only [List.set_cons_succ, List.set_cons_zero]
    refine zV_lload (pc := 19) dX9_inLowestTerms_19 rfl ?_
    refine zV_lconst0 (pc := 21) dX9_inLowestTerms_21 ?_
    refine zV_lcmp (pc := 22) dX9_inLowestTerms_22 (by omega) ?_
    refine zV_if_lec (pc := 23) (tgt := 34) dX9_inLowestTerms_23 (by decide) (fun c_23 => absurd c_23 (by omega)) (fun c_23 => ?_)
    refine zV_lload (pc := 26) dX9_inLowestTerms_26 rfl ?_
    refine zV_lload (pc := 28) dX9_inLowestTerms_28 rfl ?_
    refine zV_ldivN (pc := 30) dX9_inLowestTerms_30 (by omega) (by omega) ?_
    refine zV_goto (pc := 31) (tgt := 36) dX9_inLowestTerms_31 (by decide) ?_
    refine zV_lret (pc := 36) dX9_inLowestTerms_36 trivial ⟨Nat.zero_le _, Nat.zero_le _⟩ ?_
    first
      | exact zPl (by rw [if_pos (by omega)])
      | exact zPl (by rw [if_neg (by omega)])
end
