/-! MEETING: one thing taken in (printed by wip/whole/p30.py) -/
theorem ztm_0 {x p : Int} : x.tmod p = 0 ↔ x % p = 0 := ⟨fun h => Int.emod_eq_zero_of_dvd (Int.dvd_of_tmod_eq_zero h), fun h => Int.tmod_eq_zero_of_dvd (Int.dvd_of_emod_eq_zero h)⟩
/-- the first of d, d + s, .. from b on -/
def zna (d b s : Int) : Int := if b ≤ d then d else d + (b - d + s - 1) / s * s
theorem zna_b {d b s : Int} (hs : 1 ≤ s) (hd : 0 ≤ d) : 0 ≤ zna d b s ∧ (zna d b s ≤ d ∨ zna d b s ≤ b + s) ∧ d ≤ zna d b s := by
  unfold zna
  split
  · omega
  · have h1 : (b - d + s - 1) / s * s ≤ b - d + s - 1 := Int.ediv_mul_le _ (by omega)
    have h2 : 0 ≤ (b - d + s - 1) / s * s := Int.mul_nonneg (Int.ediv_nonneg (by omega) (by omega)) (by omega)
    omega
section
variable {g : zG} {N : Nat} {M : zM}
set_option maxRecDepth 20000 in
set_option maxHeartbeats 2000000 in
theorem kX2_start  : zK g yX2_start xX2_start [zr 20] 75 M (zPn 75 (fun M1 => M1 20 0 = 0 ∧ M1 20 1 = 1 ∧ zFr (fun a _ => a = 20) M M1)) := by
  refine zK_of (ls0 := [zr 20]) (by decide) rfl (by decide) rfl (Nat.le_of_ble_eq_true rfl) ?_
  refine zV_aload_n (pc := 0) (i := 0) dX2_start_0 rfl rfl ?_
  refine zV_lconst0 (pc := 1) dX2_start_1 ?_
  refine zV_put (pc := 2) (j := 0) dX2_start_2 flX2_7 rfl (zOb_of rfl) rfl trivial ?_
  refine zV_aload_n (pc := 5) (i := 0) dX2_start_5 rfl rfl ?_
  refine zV_lconst1 (pc := 6) dX2_start_6 ?_
  refine zV_put (pc := 7) (j := 1) dX2_start_7 flX2_13 rfl (zOb_of rfl) rfl trivial ?_
  refine zV_vret (pc := 10) dX2_start_10 trivial ⟨Nat.zero_le _, Nat.zero_le _⟩ ?_
  exact ⟨rfl, rfl, (zU_j _ _ _ _ (by decide)).trans (zU_s _ _ _ _), zU_s _ _ _ _, zFr.up (zFr.up zFr.rf rfl) rfl⟩
set_option maxRecDepth 20000 in
set_option maxHeartbeats 2000000 in
theorem kX2_notAhead {d b : Int} (hs : 1 ≤ M 20 1 ∧ M 20 1 ≤ 4611686018427387904) (hd : 0 ≤ d ∧ d ≤ 4611686018427387904) (hb : 0 ≤ b ∧ b ≤ 59) : zK g yX2_notAhead xX2_notAhead [zr 20, zl d, zi b] 75 M (zPp (zl (zna d b (M 20 1))) 75 M) := by
  refine zK_of (ls0 := [zr 20, zl d, (3, 0), zi b]) (by decide) rfl (by decide) rfl (Nat.le_of_ble_eq_true rfl) ?_
  refine zV_lload_n (pc := 0) (i := 1) dX2_notAhead_0 rfl rfl ?_
  refine zV_iload_n (pc := 1) (i := 3) dX2_notAhead_1 rfl rfl ?_
  refine zV_i2l (pc := 2) dX2_notAhead_2 (by omega) ?_
  refine zV_lcmp (pc := 3) dX2_notAhead_3 (by omega) ?_
  refine zV_if_gec (pc := 4) (tgt := 16) dX2_notAhead_4 (by decide) (fun c_4 => ?_) (fun c_4 => ?_)
  · refine zV_lload_n (pc := 16) (i := 1) dX2_notAhead_16 rfl rfl ?_
    refine zV_lret (pc := 17) dX2_notAhead_17 trivial ⟨Nat.zero_le _, Nat.zero_le _⟩ ?_
    first
      | exact zPl (if_pos (by omega)).symm
      | exact zPl (if_neg (by omega)).symm
  · refine zV_aload_n (pc := 7) (i := 0) dX2_notAhead_7 rfl rfl ?_
    refine zV_get (pc := 8) (j := 1) dX2_notAhead_8 flX2_13 (zOb_of rfl) rfl rfl ?_
    refine zV_lconst0 (pc := 11) dX2_notAhead_11 ?_
    refine zV_lcmp (pc := 12) dX2_notAhead_12 (by omega) ?_
    refine zV_if_gtc (pc := 13) (tgt := 18) dX2_notAhead_13 (by decide) (fun c_13 => ?_) (fun c_13 => absurd (by omega) c_13)
    refine zV_lload_n (pc := 18) (i := 1) dX2_notAhead_18 rfl rfl ?_
    refine zV_iload_n (pc := 19) (i := 3) dX2_notAhead_19 rfl rfl ?_
    refine zV_i2l (pc := 20) dX2_notAhead_20 (by omega) ?_
    refine zV_lload_n (pc := 21) (i := 1) dX2_notAhead_21 rfl rfl ?_
    refine zV_lsub (pc := 22) dX2_notAhead_22 ?_
    refine zV_aload_n (pc := 23) (i := 0) dX2_notAhead_23 rfl rfl ?_
    refine zV_get (pc := 24) (j := 1) dX2_notAhead_24 flX2_13 (zOb_of rfl) rfl rfl ?_
    refine zV_ladd (pc := 27) dX2_notAhead_27 ?_
    refine zV_lconst1 (pc := 28) dX2_notAhead_28 ?_
    refine zV_lsub (pc := 29) dX2_notAhead_29 ?_
    refine zV_aload_n (pc := 30) (i := 0) dX2_notAhead_30 rfl rfl ?_
    refine zV_get (pc := 31) (j := 1) dX2_notAhead_31 flX2_13 (zOb_of rfl) rfl rfl ?_
    refine zV_ldivN (pc := 34) dX2_notAhead_34 (by omega) (by omega) ?_
    refine zV_aload_n (pc := 35) (i := 0) dX2_notAhead_35 rfl rfl ?_
    refine zV_get (pc := 36) (j := 1) dX2_notAhead_36 flX2_13 (zOb_of rfl) rfl rfl ?_
    refine zV_lmul (pc := 39) dX2_notAhead_39 ?_
    refine zV_ladd (pc := 40) dX2_notAhead_40 ?_
    refine zV_lret (pc := 41) dX2_notAhead_41 trivial ⟨Nat.zero_le _, Nat.zero_le _⟩ ?_
    first
      | exact zPl (if_pos (by omega)).symm
      | exact zPl (if_neg (by omega)).symm
set_option maxRecDepth 20000 in
set_option maxHeartbeats 2000000 in
theorem kX2_tiL {a : Int} (hO : zOb 75 a 8) (hp : 1 ≤ M a 2 ∧ M a 2 ≤ 60) (hb : 0 ≤ M a 3 ∧ M a 3 ≤ 59) (hf : 0 ≤ M 20 0 ∧ M 20 0 ≤ 1152921504606846976) (hs : 1 ≤ M 20 1 ∧ M 20 1 ≤ 1125899906842624) (ha : a ≠ 20) : ∀ (k : Nat) (i : Int) (w6 w7 : zv), i + k = M a 2 → 0 ≤ i → (∀ j : Int, 0 ≤ j → j < i → (M 20 0 + j * M 20 1 - M a 3) % M a 2 ≠ 0) → zV g xX2_takeIn (fun w N' M1 => N' = 75 ∧ ((∃ t : Int, (0 ≤ t ∧ t < M a 2) ∧ (M 20 0 + t * M 20 1 - M a 3) % M a 2 = 0 ∧ (∀ i : Int, 0 ≤ i → i < t → (M 20 0 + i * M 20 1 - M a 3) % M a 2 ≠ 0) ∧ w = some (zi 1) ∧ M1 20 1 = M 20 1 / zgc (M 20 1) (M a 2) * M a 2 ∧ M1 20 0 = zna (M 20 0 + t * M 20 1) (M a 3) (M 20 1 / zgc (M 20 1) (M a 2) * M a 2) ∧ zFr (fun a _ => a = 20) M M1) ∨ ((∀ i : Int, 0 ≤ i → i < M a 2 → (M 20 0 + i * M 20 1 - M a 3) % M a 2 ≠ 0) ∧ w = some (zi 0) ∧ M1 = M))) 30 [zr 20, zr a, zi (M a 2), zl (zgc (M 20 1) (M a 2)), (3, 0), zi i, w6, w7] [] 75 M 0 0 := by
  intro k
  induction k with
  | zero =>
    intro i w6 w7 h0 h1 h2
    have hm : 0 ≤ i * M 20 1 ∧ i * M 20 1 ≤ 60 * M 20 1 := ⟨Int.mul_nonneg (by omega) (by omega), Int.mul_le_mul_of_nonneg_right (by omega) (by omega)⟩
    have hg := zgc_p (a := M 20 1) (b := M a 2) (Or.inl (by omega))
    have hq0 : 1 ≤ M 20 1 / zgc (M 20 1) (M a 2) := by
      have := Int.ediv_le_ediv hg (zgc_le (a := M 20 1) (b := M a 2) (by omega))
      rw [Int.ediv_self (by omega)] at this
      exact this
    have hq1 : M 20 1 / zgc (M 20 1) (M a 2) ≤ M 20 1 := Int.ediv_le_self _ (by omega)
    have hn0 : 1 * M a 2 ≤ M 20 1 / zgc (M 20 1) (M a 2) * M a 2 := Int.mul_le_mul_of_nonneg_right hq0 (by omega)
    have hn1 : M 20 1 / zgc (M 20 1) (M a 2) * M a 2 ≤ M 20 1 * 60 := Int.le_trans (Int.mul_le_mul_of_nonneg_right hq1 (by omega)) (Int.mul_le_mul_of_nonneg_left hp.2 (by omega))
    have hgl := zgc_le2 (a := M 20 1) (b := M a 2) (by omega)
    have t1 := Int.tmod_lt_of_pos (M 20 0 + i * M 20 1 - M a 3) (b := M a 2) (by omega)
    have t2 := Int.tmod_lt_of_pos (-(M 20 0 + i * M 20 1 - M a 3)) (b := M a 2) (by omega)
    rw [Int.neg_tmod] at t2
    refine zV_iload (pc := 30) dX2_takeIn_30 rfl ?_
    refine zV_iload_n (pc := 32) (i := 2) dX2_takeIn_32 rfl rfl ?_
    refine zV_icmp_ge (pc := 33) (tgt := 102) dX2_takeIn_33 (by decide) (by omega) (fun c_33 => ?_) (fun c_33 => absurd (by omega) c_33)
    refine zV_iconst (pc := 102) dX2_takeIn_102 ?_
    refine zV_iret (pc := 103) dX2_takeIn_103 (by first | exact zok_b1 | exact zok_b0 | exact zok_b) ⟨Nat.zero_le _, Nat.zero_le _⟩ ?_
    exact ⟨rfl, Or.inr ⟨fun j j0 j1 => h2 j j0 (by omega), rfl, rfl⟩⟩
  | succ k ih =>
    intro i w6 w7 h0 h1 h2
    have hm : 0 ≤ i * M 20 1 ∧ i * M 20 1 ≤ 60 * M 20 1 := ⟨Int.mul_nonneg (by omega) (by omega), Int.mul_le_mul_of_nonneg_right (by omega) (by omega)⟩
    have hg := zgc_p (a := M 20 1) (b := M a 2) (Or.inl (by omega))
    have hq0 : 1 ≤ M 20 1 / zgc (M 20 1) (M a 2) := by
      have := Int.ediv_le_ediv hg (zgc_le (a := M 20 1) (b := M a 2) (by omega))
      rw [Int.ediv_self (by omega)] at this
      exact this
    have hq1 : M 20 1 / zgc (M 20 1) (M a 2) ≤ M 20 1 := Int.ediv_le_self _ (by omega)
    have hn0 : 1 * M a 2 ≤ M 20 1 / zgc (M 20 1) (M a 2) * M a 2 := Int.mul_le_mul_of_nonneg_right hq0 (by omega)
    have hn1 : M 20 1 / zgc (M 20 1) (M a 2) * M a 2 ≤ M 20 1 * 60 := Int.le_trans (Int.mul_le_mul_of_nonneg_right hq1 (by omega)) (Int.mul_le_mul_of_nonneg_left hp.2 (by omega))
    have hgl := zgc_le2 (a := M 20 1) (b := M a 2) (by omega)
    have t1 := Int.tmod_lt_of_pos (M 20 0 + i * M 20 1 - M a 3) (b := M a 2) (by omega)
    have t2 := Int.tmod_lt_of_pos (-(M 20 0 + i * M 20 1 - M a 3)) (b := M a 2) (by omega)
    rw [Int.neg_tmod] at t2
    refine zV_iload (pc := 30) dX2_takeIn_30 rfl ?_
    refine zV_iload_n (pc := 32) (i := 2) dX2_takeIn_32 rfl rfl ?_
    refine zV_icmp_ge (pc := 33) (tgt := 102) dX2_takeIn_33 (by decide) (by omega) (fun c_33 => absurd c_33 (by omega)) (fun c_33 => ?_)
    refine zV_aload_n (pc := 36) (i := 0) dX2_takeIn_36 rfl rfl ?_
    refine zV_get (pc := 37) (j := 0) dX2_takeIn_37 flX2_7 (zOb_of rfl) rfl rfl ?_
    refine zV_iload (pc := 40) dX2_takeIn_40 rfl ?_
    refine zV_i2l (pc := 42) dX2_takeIn_42 (by omega) ?_
    refine zV_aload_n (pc := 43) (i := 0) dX2_takeIn_43 rfl rfl ?_
    refine zV_get (pc := 44) (j := 1) dX2_takeIn_44 flX2_13 (zOb_of rfl) rfl rfl ?_
    refine zV_lmul (pc := 47) dX2_takeIn_47 ?_
    refine zV_ladd (pc := 48) dX2_takeIn_48 ?_
    refine zV_lstore (pc := 49) dX2_takeIn_49 rfl ?_
    try dsimp only [List.set_cons_succ, List.set_cons_zero]
    refine zV_lload (pc := 51) dX2_takeIn_51 rfl ?_
    refine zV_aload_n (pc := 53) (i := 1) dX2_takeIn_53 rfl rfl ?_
    refine zV_get (pc := 54) (j := 3) dX2_takeIn_54 flX2_28 hO rfl rfl ?_
    refine zV_i2l (pc := 57) dX2_takeIn_57 (by omega) ?_
    refine zV_lsub (pc := 58) dX2_takeIn_58 ?_
    refine zV_iload_n (pc := 59) (i := 2) dX2_takeIn_59 rfl rfl ?_
    refine zV_i2l (pc := 60) dX2_takeIn_60 (by omega) ?_
    refine zV_lrem (pc := 61) dX2_takeIn_61 (by omega) (by omega) ?_
    refine zV_lconst0 (pc := 62) dX2_takeIn_62 ?_
    refine zV_lcmp (pc := 63) dX2_takeIn_63 (by omega) ?_
    refine zV_if_nec (pc := 64) (tgt := 96) dX2_takeIn_64 (by decide) (fun c_64 => ?_) (fun c_64 => ?_)
    · refine zV_iinc (pc := 96) dX2_takeIn_96 rfl rfl ?_
      try dsimp only [List.set_cons_succ, List.set_cons_zero]
      refine zV_goto (pc := 99) (tgt := 30) dX2_takeIn_99 (by decide) ?_
      refine ih (i + 1) _ _ (by omega) (by omega) ?_
      intro j j0 j1
      by_cases ej : j = i
      · subst ej
        exact fun q => c_64 (ztm_0.mpr q)
      · exact h2 j j0 (by omega)
    · refine zV_aload_n (pc := 67) (i := 0) dX2_takeIn_67 rfl rfl ?_
      refine zV_aload_n (pc := 68) (i := 0) dX2_takeIn_68 rfl rfl ?_
      refine zV_get (pc := 69) (j := 1) dX2_takeIn_69 flX2_13 (zOb_of rfl) rfl rfl ?_
      refine zV_lload_n (pc := 72) (i := 3) dX2_takeIn_72 rfl rfl ?_
      refine zV_ldivN (pc := 73) dX2_takeIn_73 (by omega) (by omega) ?_
      refine zV_iload_n (pc := 74) (i := 2) dX2_takeIn_74 rfl rfl ?_
      refine zV_i2l (pc := 75) dX2_takeIn_75 (by omega) ?_
      refine zV_lmul (pc := 76) dX2_takeIn_76 ?_
      refine zV_put (pc := 77) (j := 1) dX2_takeIn_77 flX2_13 rfl (zOb_of rfl) rfl trivial ?_
      refine zV_aload_n (pc := 80) (i := 0) dX2_takeIn_80 rfl rfl ?_
      refine zV_aload_n (pc := 81) (i := 0) dX2_takeIn_81 rfl rfl ?_
      refine zV_lload (pc := 82) dX2_takeIn_82 rfl ?_
      refine zV_aload_n (pc := 84) (i := 1) dX2_takeIn_84 rfl rfl ?_
      refine zV_get (pc := 85) (j := 3) dX2_takeIn_85 flX2_28 hO rfl (zU_a _ _ _ _ ha) ?_
      refine zV_ivp (pc := 88) (ci := 2) dX2_takeIn_88 klX2_31 mX2_notAhead ⟨by decide, rfl⟩ rfl ⟨Nat.zero_le _, Nat.zero_le _⟩ (kX2_notAhead (M := zU M 20 1 (M 20 1 / zgc (M 20 1) (M a 2) * M a 2)) (d := M 20 0 + i * M 20 1) (b := M a 3) (by rw [zU_s]; omega) (by omega) (by omega)) (zOb_of rfl) rfl rfl (Nat.le_of_ble_eq_true rfl) ?_
      rw [zU_s]
      refine zV_put (pc := 91) (j := 0) dX2_takeIn_91 flX2_7 rfl (zOb_of rfl) rfl trivial ?_
      refine zV_iconst (pc := 94) dX2_takeIn_94 ?_
      refine zV_iret (pc := 95) dX2_takeIn_95 (by first | exact zok_b1 | exact zok_b0 | exact zok_b) ⟨Nat.zero_le _, Nat.zero_le _⟩ ?_
      exact ⟨rfl, Or.inl ⟨i, by omega, ztm_0.mp c_64, h2, rfl, (zU_j _ _ _ _ (by decide)).trans (zU_s _ _ _ _), zU_s _ _ _ _, zFr.up (zFr.up zFr.rf rfl) rfl⟩⟩
set_option maxRecDepth 20000 in
set_option maxHeartbeats 2000000 in
theorem kX2_takeIn {a : Int} (hO : zOb 75 a 8) (hp : 1 ≤ M a 2 ∧ M a 2 ≤ 60) (hb : 0 ≤ M a 3 ∧ M a 3 ≤ 59) (hf : 0 ≤ M 20 0 ∧ M 20 0 ≤ 1152921504606846976) (hs : 1 ≤ M 20 1 ∧ M 20 1 ≤ 1125899906842624) (ha : a ≠ 20) : zK g yX2_takeIn xX2_takeIn [zr 20, zr a] 75 M (fun w N' M1 => N' = 75 ∧ ((∃ t : Int, (0 ≤ t ∧ t < M a 2) ∧ (M 20 0 + t * M 20 1 - M a 3) % M a 2 = 0 ∧ (∀ i : Int, 0 ≤ i → i < t → (M 20 0 + i * M 20 1 - M a 3) % M a 2 ≠ 0) ∧ w = some (zi 1) ∧ M1 20 1 = M 20 1 / zgc (M 20 1) (M a 2) * M a 2 ∧ M1 20 0 = zna (M 20 0 + t * M 20 1) (M a 3) (M 20 1 / zgc (M 20 1) (M a 2) * M a 2) ∧ zFr (fun a _ => a = 20) M M1) ∨ ((∀ i : Int, 0 ≤ i → i < M a 2 → (M 20 0 + i * M 20 1 - M a 3) % M a 2 ≠ 0) ∧ w = some (zi 0) ∧ M1 = M))) := by
  refine zK_of (ls0 := [zr 20, zr a, (3, 0), (3, 0), (3, 0), (3, 0), (3, 0), (3, 0)]) (by decide) rfl (by decide) rfl (Nat.le_of_ble_eq_true rfl) ?_
  have hg := zgc_p (a := M 20 1) (b := M a 2) (Or.inl (by omega))
  have hg2 := zgc_le2 (a := M 20 1) (b := M a 2) (by omega)
  refine zV_aload_n (pc := 0) (i := 1) dX2_takeIn_0 rfl rfl ?_
  refine zV_get (pc := 1) (j := 2) dX2_takeIn_1 flX2_16 hO rfl rfl ?_
  refine zV_istore_n (pc := 4) (i := 2) dX2_takeIn_4 rfl rfl ?_
  try dsimp only [List.set_cons_succ, List.set_cons_zero]
  refine zV_aload_n (pc := 5) (i := 0) dX2_takeIn_5 rfl rfl ?_
  refine zV_get (pc := 6) (j := 1) dX2_takeIn_6 flX2_13 (zOb_of rfl) rfl rfl ?_
  refine zV_iload_n (pc := 9) (i := 2) dX2_takeIn_9 rfl rfl ?_
  refine zV_i2l (pc := 10) dX2_takeIn_10 (by omega) ?_
  refine zV_isNp (pc := 11) dX2_takeIn_11 klX2_22 mX9_greatestDivisor rfl ⟨Nat.zero_le _, Nat.zero_le _⟩ (kX9_gd (by omega) (by omega)) rfl rfl (Nat.le_of_ble_eq_true rfl) ?_
  refine zV_lstore_n (pc := 14) (i := 3) dX2_takeIn_14 rfl rfl ?_
  try dsimp only [List.set_cons_succ, List.set_cons_zero]
  refine zV_iload_n (pc := 15) (i := 2) dX2_takeIn_15 rfl rfl ?_
  refine zV_if_le (pc := 16) (tgt := 25) dX2_takeIn_16 (by decide) (by omega) (fun c_16 => absurd c_16 (by omega)) (fun c_16 => ?_)
  refine zV_lload_n (pc := 19) (i := 3) dX2_takeIn_19 rfl rfl ?_
  refine zV_lconst0 (pc := 20) dX2_takeIn_20 ?_
  refine zV_lcmp (pc := 21) dX2_takeIn_21 (by omega) ?_
  refine zV_if_gtc (pc := 22) (tgt := 27) dX2_takeIn_22 (by decide) (fun c_22 => ?_) (fun c_22 => absurd (by omega) c_22)
  refine zV_iconst (pc := 27) dX2_takeIn_27 ?_
  refine zV_istore (pc := 28) dX2_takeIn_28 rfl ?_
  try dsimp only [List.set_cons_succ, List.set_cons_zero]
  exact kX2_tiL hO hp hb hf hs ha (M a 2).toNat 0 _ _ (by omega) (by omega) (fun j j0 j1 => absurd j0 (by omega))
end
