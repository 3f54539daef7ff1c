/-! THE CLASS: small methods, and whether a thing comes (printed by wip/whole/p09.py) -/
section
variable {g : zG} {N : Nat} {M : zM}
set_option maxRecDepth 20000 in
set_option maxHeartbeats 2000000 in
theorem kX9_within {v a b : Int} (hv : -2147483648 ≤ v ∧ v ≤ 2147483647) (ha : -2147483648 ≤ a ∧ a ≤ 2147483647) (hb : -2147483648 ≤ b ∧ b ≤ 2147483647) : zK g yX9_within xX9_within [zi v, zi a, zi b] N M (zPp (zi (zb (a ≤ v ∧ v ≤ b))) N M) := by
  refine zK_of (by decide) rfl (by decide) rfl (Nat.le_of_ble_eq_true rfl) ?_
  refine zV_iload_n (pc := 0) (i := 0) dX9_within_0 rfl rfl ?_
  refine zV_iload_n (pc := 1) (i := 1) dX9_within_1 rfl rfl ?_
  refine zV_icmp_lt (pc := 2) (tgt := 14) dX9_within_2 (by decide) (by omega) (fun c_2 => ?_) (fun c_2 => ?_)
  · refine zV_iconst (pc := 14) dX9_within_14 ?_
    refine zV_iret (pc := 15) dX9_within_15 (by first | exact zok_b1 | exact zok_b0 | exact zok_b) ⟨Nat.zero_le _, Nat.zero_le _⟩ ?_
    first
      | exact zPt (by omega)
      | exact zPf (by omega)
  · refine zV_iload_n (pc := 5) (i := 0) dX9_within_5 rfl rfl ?_
    refine zV_iload_n (pc := 6) (i := 2) dX9_within_6 rfl rfl ?_
    refine zV_icmp_gt (pc := 7) (tgt := 14) dX9_within_7 (by decide) (by omega) (fun c_7 => ?_) (fun c_7 => ?_)
    · refine zV_iconst (pc := 14) dX9_within_14 ?_
      refine zV_iret (pc := 15) dX9_within_15 (by first | exact zok_b1 | exact zok_b0 | exact zok_b) ⟨Nat.zero_le _, Nat.zero_le _⟩ ?_
      first
        | exact zPt (by omega)
        | exact zPf (by omega)
    · refine zV_iconst (pc := 10) dX9_within_10 ?_
      refine zV_goto (pc := 11) (tgt := 15) dX9_within_11 (by decide) ?_
      refine zV_iret (pc := 15) dX9_within_15 (by first | exact zok_b1 | exact zok_b0 | exact zok_b) ⟨Nat.zero_le _, Nat.zero_le _⟩ ?_
      first
        | exact zPt (by omega)
        | exact zPf (by omega)
set_option maxRecDepth 20000 in
set_option maxHeartbeats 2000000 in
theorem kX9_hasBit {s i : Int} (hs : 0 ≤ s ∧ s ≤ 2147483647) (hi : 0 ≤ i ∧ i ≤ 31) : zK g yX9_hasBit xX9_hasBit [zi s, zi i] N M (zPp (zi (zb (zbt s i))) N M) := by
  refine zK_of (by decide) rfl (by decide) rfl (Nat.le_of_ble_eq_true rfl) ?_
  have h0 : 0 ≤ s / 2 ^ i.toNat := Int.ediv_nonneg hs.1 (Int.le_of_lt (Int.pow_pos (by decide)))
  refine zV_iload_n (pc := 0) (i := 0) dX9_hasBit_0 rfl rfl ?_
  refine zV_iload_n (pc := 1) (i := 1) dX9_hasBit_1 rfl rfl ?_
  refine zV_ishr (pc := 2) dX9_hasBit_2 (z_shr (by omega) hi rfl) ?_
  refine zV_iconst (pc := 3) dX9_hasBit_3 ?_
  refine zV_iand (pc := 4) dX9_hasBit_4 (z_and1 h0) ?_
  refine zV_if_eq (pc := 5) (tgt := 12) dX9_hasBit_5 (by decide) (by omega) (fun c_5 => ?_) (fun c_5 => ?_)
  · refine zV_iconst (pc := 12) dX9_hasBit_12 ?_
    refine zV_iret (pc := 13) dX9_hasBit_13 (by first | exact zok_b1 | exact zok_b0 | exact zok_b) ⟨Nat.zero_le _, Nat.zero_le _⟩ ?_
    first
      | exact zPt (by unfold zbt; omega)
      | exact zPf (by unfold zbt; omega)
  · refine zV_iconst (pc := 8) dX9_hasBit_8 ?_
    refine zV_goto (pc := 9) (tgt := 13) dX9_hasBit_9 (by decide) ?_
    refine zV_iret (pc := 13) dX9_hasBit_13 (by first | exact zok_b1 | exact zok_b0 | exact zok_b) ⟨Nat.zero_le _, Nat.zero_le _⟩ ?_
    first
      | exact zPt (by unfold zbt; omega)
      | exact zPf (by unfold zbt; omega)
set_option maxRecDepth 20000 in
set_option maxHeartbeats 2000000 in
theorem kX9_isDay {v : Int} (hv : -2147483648 ≤ v ∧ v ≤ 2147483647) : zK g yX9_isDay xX9_isDay [zi v] N M (zPp (zi (zb (0 ≤ v ∧ v ≤ 399))) N M) := by
  refine zK_of (by decide) rfl (by decide) rfl (Nat.le_of_ble_eq_true rfl) ?_
  refine zV_iload_n (pc := 0) (i := 0) dX9_isDay_0 rfl rfl ?_
  refine zV_iconst (pc := 1) dX9_isDay_1 ?_
  refine zV_sipush (pc := 2) dX9_isDay_2 (by decide) ?_
  refine zV_isp (pc := 5) dX9_isDay_5 klX9_119 mX9_within rfl ⟨Nat.zero_le _, Nat.zero_le _⟩ (kX9_within (by omega) (by omega) (by omega)) rfl rfl (Nat.le_of_ble_eq_true rfl) ?_
  refine zV_iret (pc := 8) dX9_isDay_8 (by first | exact zok_b1 | exact zok_b0 | exact zok_b) ⟨Nat.zero_le _, Nat.zero_le _⟩ ?_
  exact ⟨rfl, rfl, rfl⟩
set_option maxRecDepth 20000 in
set_option maxHeartbeats 2000000 in
theorem kX9_isSheet {v : Int} (hv : -2147483648 ≤ v ∧ v ≤ 2147483647) : zK g yX9_isSheet xX9_isSheet [zi v] N M (zPp (zi (zb (0 ≤ v ∧ v ≤ 3))) N M) := by
  refine zK_of (by decide) rfl (by decide) rfl (Nat.le_of_ble_eq_true rfl) ?_
  refine zV_iload_n (pc := 0) (i := 0) dX9_isSheet_0 rfl rfl ?_
  refine zV_iconst (pc := 1) dX9_isSheet_1 ?_
  refine zV_iconst (pc := 2) dX9_isSheet_2 ?_
  refine zV_isp (pc := 3) dX9_isSheet_3 klX9_119 mX9_within rfl ⟨Nat.zero_le _, Nat.zero_le _⟩ (kX9_within (by omega) (by omega) (by omega)) rfl rfl (Nat.le_of_ble_eq_true rfl) ?_
  refine zV_iret (pc := 6) dX9_isSheet_6 (by first | exact zok_b1 | exact zok_b0 | exact zok_b) ⟨Nat.zero_le _, Nat.zero_le _⟩ ?_
  exact ⟨rfl, rfl, rfl⟩
set_option maxRecDepth 20000 in
set_option maxHeartbeats 2000000 in
theorem kX9_isHoliday {d h : Int} (hd : 0 ≤ d ∧ d ≤ 2147483647) (hh : 0 ≤ h ∧ h ≤ 127) : zK g yX9_isHoliday xX9_isHoliday [zi d, zi h] N M (zPp (zi (zb (zhd h d))) N M) := by
  refine zK_of (by decide) rfl (by decide) rfl (Nat.le_of_ble_eq_true rfl) ?_
  refine zV_iload_n (pc := 0) (i := 1) dX9_isHoliday_0 rfl rfl ?_
  refine zV_iload_n (pc := 1) (i := 0) dX9_isHoliday_1 rfl rfl ?_
  refine zV_bipush (pc := 2) dX9_isHoliday_2 (by decide) ?_
  refine zV_iremN (pc := 4) dX9_isHoliday_4 (by omega) (by omega) ?_
  refine zV_isp (pc := 5) dX9_isHoliday_5 klX9_195 mX9_hasBit rfl ⟨Nat.zero_le _, Nat.zero_le _⟩ (kX9_hasBit (by omega) (by omega)) rfl rfl (Nat.le_of_ble_eq_true rfl) ?_
  refine zV_iret (pc := 8) dX9_isHoliday_8 (by first | exact zok_b1 | exact zok_b0 | exact zok_b) ⟨Nat.zero_le _, Nat.zero_le _⟩ ?_
  exact zPc (show zhd h d ↔ zbt h (d % 7) from ⟨fun q => q.2, fun q => ⟨hd.1, q⟩⟩).symm
set_option maxRecDepth 20000 in
set_option maxHeartbeats 2000000 in
theorem kX8_inRound {a d : Int} (hO : zOb N a 8) (hk : 0 ≤ M a 0 ∧ M a 0 ≤ 5) (hn : 0 ≤ M a 1 ∧ M a 1 ≤ 9) (hp : 1 ≤ M a 2 ∧ M a 2 ≤ 60) (hb : 0 ≤ M a 3 ∧ M a 3 ≤ 59) (hd : 0 ≤ d ∧ d ≤ 1000) : zK g yX8_inRound xX8_inRound [zr a, zi d] N M (zPp (zi (zb (zrd (M a 2) (M a 3) d))) N M) := by
  refine zK_of (by decide) rfl (by decide) rfl (Nat.le_of_ble_eq_true rfl) ?_
  refine zV_iload_n (pc := 0) (i := 1) dX8_inRound_0 rfl rfl ?_
  refine zV_aload_n (pc := 1) (i := 0) dX8_inRound_1 rfl rfl ?_
  refine zV_get (pc := 2) (j := 3) dX8_inRound_2 flX8_21 hO rfl rfl ?_
  refine zV_icmp_lt (pc := 5) (tgt := 33) dX8_inRound_5 (by decide) (by omega) (fun c_5 => ?_) (fun c_5 => ?_)
  · refine zV_iconst (pc := 33) dX8_inRound_33 ?_
    refine zV_iret (pc := 34) dX8_inRound_34 (by first | exact zok_b1 | exact zok_b0 | exact zok_b) ⟨Nat.zero_le _, Nat.zero_le _⟩ ?_
    first
      | (exfalso; omega)
      | exact zPt (show zrd (M a 2) (M a 3) d from ⟨by omega, by omega⟩)
      | exact zPf (show ¬ zrd (M a 2) (M a 3) d from fun q => by have := q.1; have := q.2; omega)
  · refine zV_aload_n (pc := 8) (i := 0) dX8_inRound_8 rfl rfl ?_
    refine zV_get (pc := 9) (j := 2) dX8_inRound_9 flX8_15 hO rfl rfl ?_
    refine zV_if_le (pc := 12) (tgt := 33) dX8_inRound_12 (by decide) (by omega) (fun c_12 => ?_) (fun c_12 => ?_)
    · refine zV_iconst (pc := 33) dX8_inRound_33 ?_
      refine zV_iret (pc := 34) dX8_inRound_34 (by first | exact zok_b1 | exact zok_b0 | exact zok_b) ⟨Nat.zero_le _, Nat.zero_le _⟩ ?_
      first
        | (exfalso; omega)
        | exact zPt (show zrd (M a 2) (M a 3) d from ⟨by omega, by omega⟩)
        | exact zPf (show ¬ zrd (M a 2) (M a 3) d from fun q => by have := q.1; have := q.2; omega)
    · refine zV_iload_n (pc := 15) (i := 1) dX8_inRound_15 rfl rfl ?_
      refine zV_aload_n (pc := 16) (i := 0) dX8_inRound_16 rfl rfl ?_
      refine zV_get (pc := 17) (j := 3) dX8_inRound_17 flX8_21 hO rfl rfl ?_
      refine zV_isub (pc := 20) dX8_inRound_20 ?_
      refine zV_aload_n (pc := 21) (i := 0) dX8_inRound_21 rfl rfl ?_
      refine zV_get (pc := 22) (j := 2) dX8_inRound_22 flX8_15 hO rfl rfl ?_
      refine zV_iremN (pc := 25) dX8_inRound_25 (by omega) (by omega) ?_
      refine zV_if_ne (pc := 26) (tgt := 33) dX8_inRound_26 (by decide) (by have := zrd_r (d := d) (b := M a 3) (p := M a 2) (by omega) (by omega); omega) (fun c_26 => ?_) (fun c_26 => ?_)
      · refine zV_iconst (pc := 33) dX8_inRound_33 ?_
        refine zV_iret (pc := 34) dX8_inRound_34 (by first | exact zok_b1 | exact zok_b0 | exact zok_b) ⟨Nat.zero_le _, Nat.zero_le _⟩ ?_
        first
          | (exfalso; omega)
          | exact zPt (show zrd (M a 2) (M a 3) d from ⟨by omega, by omega⟩)
          | exact zPf (show ¬ zrd (M a 2) (M a 3) d from fun q => by have := q.1; have := q.2; omega)
      · refine zV_iconst (pc := 29) dX8_inRound_29 ?_
        refine zV_goto (pc := 30) (tgt := 34) dX8_inRound_30 (by decide) ?_
        refine zV_iret (pc := 34) dX8_inRound_34 (by first | exact zok_b1 | exact zok_b0 | exact zok_b) ⟨Nat.zero_le _, Nat.zero_le _⟩ ?_
        first
          | (exfalso; omega)
          | exact zPt (show zrd (M a 2) (M a 3) d from ⟨by omega, by omega⟩)
          | exact zPf (show ¬ zrd (M a 2) (M a 3) d from fun q => by have := q.1; have := q.2; omega)
set_option maxRecDepth 20000 in
set_option maxHeartbeats 2000000 in
theorem kX8_lasts {a d : Int} (hO : zOb N a 8) (hk : 0 ≤ M a 0 ∧ M a 0 ≤ 5) (hn : 0 ≤ M a 1 ∧ M a 1 ≤ 9) (hp : 1 ≤ M a 2 ∧ M a 2 ≤ 60) (hb : 0 ≤ M a 3 ∧ M a 3 ≤ 59) (hd : 0 ≤ d ∧ d ≤ 1000) : zK g yX8_lasts xX8_lasts [zr a, zi d] N M (zPp (zi (zb (zls (M a 1) (M a 2) (M a 3) d))) N M) := by
  refine zK_of (by decide) rfl (by decide) rfl (Nat.le_of_ble_eq_true rfl) ?_
  refine zV_iload_n (pc := 0) (i := 1) dX8_lasts_0 rfl rfl ?_
  refine zV_aload_n (pc := 1) (i := 0) dX8_lasts_1 rfl rfl ?_
  refine zV_get (pc := 2) (j := 3) dX8_lasts_2 flX8_21 hO rfl rfl ?_
  refine zV_icmp_lt (pc := 5) (tgt := 37) dX8_lasts_5 (by decide) (by omega) (fun c_5 => ?_) (fun c_5 => ?_)
  · refine zV_iconst (pc := 37) dX8_lasts_37 ?_
    refine zV_iret (pc := 38) dX8_lasts_38 (by first | exact zok_b1 | exact zok_b0 | exact zok_b) ⟨Nat.zero_le _, Nat.zero_le _⟩ ?_
    first
      | (exfalso; omega)
      | exact zPt (show zls (M a 1) (M a 2) (M a 3) d from ⟨by omega, by omega⟩)
      | exact zPf (show ¬ zls (M a 1) (M a 2) (M a 3) d from fun q => by have := q.1; have := q.2; omega)
  · refine zV_aload_n (pc := 8) (i := 0) dX8_lasts_8 rfl rfl ?_
    refine zV_get (pc := 9) (j := 2) dX8_lasts_9 flX8_15 hO rfl rfl ?_
    refine zV_if_le (pc := 12) (tgt := 37) dX8_lasts_12 (by decide) (by omega) (fun c_12 => ?_) (fun c_12 => ?_)
    · refine zV_iconst (pc := 37) dX8_lasts_37 ?_
      refine zV_iret (pc := 38) dX8_lasts_38 (by first | exact zok_b1 | exact zok_b0 | exact zok_b) ⟨Nat.zero_le _, Nat.zero_le _⟩ ?_
      first
        | (exfalso; omega)
        | exact zPt (show zls (M a 1) (M a 2) (M a 3) d from ⟨by omega, by omega⟩)
        | exact zPf (show ¬ zls (M a 1) (M a 2) (M a 3) d from fun q => by have := q.1; have := q.2; omega)
    · refine zV_iload_n (pc := 15) (i := 1) dX8_lasts_15 rfl rfl ?_
      refine zV_aload_n (pc := 16) (i := 0) dX8_lasts_16 rfl rfl ?_
      refine zV_get (pc := 17) (j := 3) dX8_lasts_17 flX8_21 hO rfl rfl ?_
      refine zV_isub (pc := 20) dX8_lasts_20 ?_
      refine zV_aload_n (pc := 21) (i := 0) dX8_lasts_21 rfl rfl ?_
      refine zV_get (pc := 22) (j := 2) dX8_lasts_22 flX8_15 hO rfl rfl ?_
      refine zV_iremN (pc := 25) dX8_lasts_25 (by omega) (by omega) ?_
      refine zV_aload_n (pc := 26) (i := 0) dX8_lasts_26 rfl rfl ?_
      refine zV_get (pc := 27) (j := 1) dX8_lasts_27 flX8_18 hO rfl rfl ?_
      refine zV_icmp_gt (pc := 30) (tgt := 37) dX8_lasts_30 (by decide) (by have := zrd_r (d := d) (b := M a 3) (p := M a 2) (by omega) (by omega); omega) (fun c_30 => ?_) (fun c_30 => ?_)
      · refine zV_iconst (pc := 37) dX8_lasts_37 ?_
        refine zV_iret (pc := 38) dX8_lasts_38 (by first | exact zok_b1 | exact zok_b0 | exact zok_b) ⟨Nat.zero_le _, Nat.zero_le _⟩ ?_
        first
          | (exfalso; omega)
          | exact zPt (show zls (M a 1) (M a 2) (M a 3) d from ⟨by omega, by omega⟩)
          | exact zPf (show ¬ zls (M a 1) (M a 2) (M a 3) d from fun q => by have := q.1; have := q.2; omega)
      · refine zV_iconst (pc := 33) dX8_lasts_33 ?_
        refine zV_goto (pc := 34) (tgt := 38) dX8_lasts_34 (by decide) ?_
        refine zV_iret (pc := 38) dX8_lasts_38 (by first | exact zok_b1 | exact zok_b0 | exact zok_b) ⟨Nat.zero_le _, Nat.zero_le _⟩ ?_
        first
          | (exfalso; omega)
          | exact zPt (show zls (M a 1) (M a 2) (M a 3) d from ⟨by omega, by omega⟩)
          | exact zPf (show ¬ zls (M a 1) (M a 2) (M a 3) d from fun q => by have := q.1; have := q.2; omega)
set_option maxRecDepth 20000 in
set_option maxHeartbeats 2000000 in
theorem kX8_pol {a d h : Int} (hO : zOb N a 8) (hk : 0 ≤ M a 0 ∧ M a 0 ≤ 5) (hn : 0 ≤ M a 1 ∧ M a 1 ≤ 9) (hp : 1 ≤ M a 2 ∧ M a 2 ≤ 60) (hb : 0 ≤ M a 3 ∧ M a 3 ≤ 59) (hd : 0 ≤ d ∧ d ≤ 1000) (hh : 0 ≤ h ∧ h ≤ 127) (c_5 : ¬ zhd h d) (c_15 : ¬ zrd (M a 2) (M a 3) d) : ∀ (k : Nat) (i : Int), i + k = 7 → 1 ≤ i → (∀ j : Int, 1 ≤ j → j < i → zhd h (d - j) ∧ ¬ zrd (M a 2) (M a 3) (d - j)) → zV g xX8_isPutOffTo (zPp (zi (zb (zpo h (M a 2) (M a 3) d))) N M) 22 [zr a, zi d, zi h, zi i] [] N M 0 0 := by
  intro k
  induction k with
  | zero =>
    intro i h1 h2 hI
    refine zV_iload_n (pc := 22) (i := 3) dX8_isPutOffTo_22 rfl rfl ?_
    refine zV_bipush (pc := 23) dX8_isPutOffTo_23 (by decide) ?_
    refine zV_icmp_ge (pc := 25) (tgt := 61) dX8_isPutOffTo_25 (by decide) (by omega) (fun c_25 => ?_) (fun c_25 => absurd (by omega) c_25)
    refine zV_iconst (pc := 61) dX8_isPutOffTo_61 ?_
    refine zV_iret (pc := 62) dX8_isPutOffTo_62 (by first | exact zok_b1 | exact zok_b0 | exact zok_b) ⟨Nat.zero_le _, Nat.zero_le _⟩ ?_
    first
      | (refine zPf ?_; rintro ⟨_, q | ⟨k0, k1, k6, hj, hr⟩⟩; exact c_15 q; rcases Int.lt_or_le k0 i with q | q; exact (hI k0 k1 q).2 hr; exact c_40 (hj i (by omega) q))
      | (refine zPf ?_; rintro ⟨_, q | ⟨k0, k1, k6, hj, hr⟩⟩; exact c_15 q; rcases Int.lt_or_le k0 i with q | q; exact (hI k0 k1 q).2 hr; (exfalso; have := (hj i (by omega) q).1; omega))
      | (refine zPf ?_; rintro ⟨_, q | ⟨k0, k1, k6, hj, hr⟩⟩; exact c_15 q; rcases Int.lt_or_le k0 i with q | q; exact (hI k0 k1 q).2 hr; (exfalso; omega))
  | succ k ih =>
    intro i h1 h2 hI
    refine zV_iload_n (pc := 22) (i := 3) dX8_isPutOffTo_22 rfl rfl ?_
    refine zV_bipush (pc := 23) dX8_isPutOffTo_23 (by decide) ?_
    refine zV_icmp_ge (pc := 25) (tgt := 61) dX8_isPutOffTo_25 (by decide) (by omega) (fun c_25 => absurd c_25 (by omega)) (fun c_25 => ?_)
    refine zV_iload_n (pc := 28) (i := 3) dX8_isPutOffTo_28 rfl rfl ?_
    refine zV_iload_n (pc := 29) (i := 1) dX8_isPutOffTo_29 rfl rfl ?_
    refine zV_icmp_gt (pc := 30) (tgt := 61) dX8_isPutOffTo_30 (by decide) (by omega) (fun c_30 => ?_) (fun c_30 => ?_)
    · refine zV_iconst (pc := 61) dX8_isPutOffTo_61 ?_
      refine zV_iret (pc := 62) dX8_isPutOffTo_62 (by first | exact zok_b1 | exact zok_b0 | exact zok_b) ⟨Nat.zero_le _, Nat.zero_le _⟩ ?_
      first
        | (refine zPf ?_; rintro ⟨_, q | ⟨k0, k1, k6, hj, hr⟩⟩; exact c_15 q; rcases Int.lt_or_le k0 i with q | q; exact (hI k0 k1 q).2 hr; exact c_40 (hj i (by omega) q))
        | (refine zPf ?_; rintro ⟨_, q | ⟨k0, k1, k6, hj, hr⟩⟩; exact c_15 q; rcases Int.lt_or_le k0 i with q | q; exact (hI k0 k1 q).2 hr; (exfalso; have := (hj i (by omega) q).1; omega))
        | (refine zPf ?_; rintro ⟨_, q | ⟨k0, k1, k6, hj, hr⟩⟩; exact c_15 q; rcases Int.lt_or_le k0 i with q | q; exact (hI k0 k1 q).2 hr; (exfalso; omega))
    · refine zV_iload_n (pc := 33) (i := 1) dX8_isPutOffTo_33 rfl rfl ?_
      refine zV_iload_n (pc := 34) (i := 3) dX8_isPutOffTo_34 rfl rfl ?_
      refine zV_isub (pc := 35) dX8_isPutOffTo_35 ?_
      refine zV_iload_n (pc := 36) (i := 2) dX8_isPutOffTo_36 rfl rfl ?_
      refine zV_isNp (pc := 37) dX8_isPutOffTo_37 klX8_39 mX9_isHoliday rfl ⟨Nat.zero_le _, Nat.zero_le _⟩ (kX9_isHoliday (by omega) (by omega)) rfl rfl (Nat.le_of_ble_eq_true rfl) ?_
      refine zV_if_eqb (pc := 40) (tgt := 61) dX8_isPutOffTo_40 (by decide) (fun c_40 => ?_) (fun c_40 => ?_)
      · refine zV_iconst (pc := 61) dX8_isPutOffTo_61 ?_
        refine zV_iret (pc := 62) dX8_isPutOffTo_62 (by first | exact zok_b1 | exact zok_b0 | exact zok_b) ⟨Nat.zero_le _, Nat.zero_le _⟩ ?_
        first
          | (refine zPf ?_; rintro ⟨_, q | ⟨k0, k1, k6, hj, hr⟩⟩; exact c_15 q; rcases Int.lt_or_le k0 i with q | q; exact (hI k0 k1 q).2 hr; exact c_40 (hj i (by omega) q))
          | (refine zPf ?_; rintro ⟨_, q | ⟨k0, k1, k6, hj, hr⟩⟩; exact c_15 q; rcases Int.lt_or_le k0 i with q | q; exact (hI k0 k1 q).2 hr; (exfalso; have := (hj i (by omega) q).1; omega))
          | (refine zPf ?_; rintro ⟨_, q | ⟨k0, k1, k6, hj, hr⟩⟩; exact c_15 q; rcases Int.lt_or_le k0 i with q | q; exact (hI k0 k1 q).2 hr; (exfalso; omega))
      · refine zV_aload_n (pc := 43) (i := 0) dX8_isPutOffTo_43 rfl rfl ?_
        refine zV_iload_n (pc := 44) (i := 1) dX8_isPutOffTo_44 rfl rfl ?_
        refine zV_iload_n (pc := 45) (i := 3) dX8_isPutOffTo_45 rfl rfl ?_
        refine zV_isub (pc := 46) dX8_isPutOffTo_46 ?_
        refine zV_ivp (pc := 47) (ci := 8) dX8_isPutOffTo_47 klX8_36 mX8_inRound ⟨by decide, rfl⟩ rfl ⟨Nat.zero_le _, Nat.zero_le _⟩ (kX8_inRound hO hk hn hp hb (by omega)) hO rfl rfl (Nat.le_of_ble_eq_true rfl) ?_
        refine zV_if_eqb (pc := 50) (tgt := 55) dX8_isPutOffTo_50 (by decide) (fun c_50 => ?_) (fun c_50 => ?_)
        · refine zV_iinc (pc := 55) dX8_isPutOffTo_55 rfl rfl ?_
          try dsimp only [List.set_cons_succ, List.set_cons_zero]
          refine zV_goto (pc := 58) (tgt := 22) dX8_isPutOffTo_58 (by decide) ?_
          exact ih (i + 1) (by omega) (by omega) (fun j h1 h2 => by
            rcases Int.lt_or_eq_of_le (show j ≤ i by omega) with h3 | h3
            · exact hI j h1 h3
            · rw [h3]
              exact ⟨c_40, c_50⟩)
        · refine zV_iconst (pc := 53) dX8_isPutOffTo_53 ?_
          refine zV_iret (pc := 54) dX8_isPutOffTo_54 (by first | exact zok_b1 | exact zok_b0 | exact zok_b) ⟨Nat.zero_le _, Nat.zero_le _⟩ ?_
          exact zPt ⟨c_5, Or.inr ⟨i, by omega, by omega, fun j h1 h2 => by rcases Int.lt_or_eq_of_le h2 with h3 | h3; exact (hI j h1 h3).1; rw [h3]; exact c_40, c_50⟩⟩
set_option maxRecDepth 20000 in
set_option maxHeartbeats 2000000 in
theorem kX8_isPutOffTo {a d h : Int} (hO : zOb N a 8) (hk : 0 ≤ M a 0 ∧ M a 0 ≤ 5) (hn : 0 ≤ M a 1 ∧ M a 1 ≤ 9) (hp : 1 ≤ M a 2 ∧ M a 2 ≤ 60) (hb : 0 ≤ M a 3 ∧ M a 3 ≤ 59) (hd : 0 ≤ d ∧ d ≤ 1000) (hh : 0 ≤ h ∧ h ≤ 127) : zK g yX8_isPutOffTo xX8_isPutOffTo [zr a, zi d, zi h] N M (zPp (zi (zb (zpo h (M a 2) (M a 3) d))) N M) := by
  refine zK_of (by decide) rfl (by decide) rfl (Nat.le_of_ble_eq_true rfl) ?_
  refine zV_iload_n (pc := 0) (i := 1) dX8_isPutOffTo_0 rfl rfl ?_
  refine zV_iload_n (pc := 1) (i := 2) dX8_isPutOffTo_1 rfl rfl ?_
  refine zV_isNp (pc := 2) dX8_isPutOffTo_2 klX8_39 mX9_isHoliday rfl ⟨Nat.zero_le _, Nat.zero_le _⟩ (kX9_isHoliday (by omega) (by omega)) rfl rfl (Nat.le_of_ble_eq_true rfl) ?_
  refine zV_if_eqb (pc := 5) (tgt := 10) dX8_isPutOffTo_5 (by decide) (fun c_5 => ?_) (fun c_5 => ?_)
  · refine zV_aload_n (pc := 10) (i := 0) dX8_isPutOffTo_10 rfl rfl ?_
    refine zV_iload_n (pc := 11) (i := 1) dX8_isPutOffTo_11 rfl rfl ?_
    refine zV_ivp (pc := 12) (ci := 8) dX8_isPutOffTo_12 klX8_36 mX8_inRound ⟨by decide, rfl⟩ rfl ⟨Nat.zero_le _, Nat.zero_le _⟩ (kX8_inRound hO hk hn hp hb (by omega)) hO rfl rfl (Nat.le_of_ble_eq_true rfl) ?_
    refine zV_if_eqb (pc := 15) (tgt := 20) dX8_isPutOffTo_15 (by decide) (fun c_15 => ?_) (fun c_15 => ?_)
    · refine zV_iconst (pc := 20) dX8_isPutOffTo_20 ?_
      refine zV_istore_n (pc := 21) (i := 3) dX8_isPutOffTo_21 rfl rfl ?_
      try dsimp only [List.set_cons_succ, List.set_cons_zero]
      exact kX8_pol hO hk hn hp hb hd hh c_5 c_15 6 1 (by omega) (by omega) (fun j h1 h2 => absurd h1 (by omega))
    · refine zV_iconst (pc := 18) dX8_isPutOffTo_18 ?_
      refine zV_iret (pc := 19) dX8_isPutOffTo_19 (by first | exact zok_b1 | exact zok_b0 | exact zok_b) ⟨Nat.zero_le _, Nat.zero_le _⟩ ?_
      exact zPt ⟨c_5, Or.inl c_15⟩
  · refine zV_iconst (pc := 8) dX8_isPutOffTo_8 ?_
    refine zV_iret (pc := 9) dX8_isPutOffTo_9 (by first | exact zok_b1 | exact zok_b0 | exact zok_b) ⟨Nat.zero_le _, Nat.zero_le _⟩ ?_
    exact zPf (fun q => q.1 c_5)
set_option maxRecDepth 20000 in
set_option maxHeartbeats 2000000 in
theorem kX8_comes {a d h : Int} (hO : zOb N a 8) (hk : 0 ≤ M a 0 ∧ M a 0 ≤ 5) (hn : 0 ≤ M a 1 ∧ M a 1 ≤ 9) (hp : 1 ≤ M a 2 ∧ M a 2 ≤ 60) (hb : 0 ≤ M a 3 ∧ M a 3 ≤ 59) (hd : 0 ≤ d ∧ d ≤ 900) (hh : 0 ≤ h ∧ h ≤ 127) : zK g yX8_comes xX8_comes [zr a, zi d, zi h] N M (zPp (zi (zb (zcm (M a 0) (M a 1) (M a 2) (M a 3) h d))) N M) := by
  refine zK_of (by decide) rfl (by decide) rfl (Nat.le_of_ble_eq_true rfl) ?_
  refine zV_aload_n (pc := 0) (i := 0) dX8_comes_0 rfl rfl ?_
  refine zV_get (pc := 1) (j := 0) dX8_comes_1 flX8_9 hO rfl rfl ?_
  rcases (show M a 0 = 0 ∨ M a 0 = 1 ∨ M a 0 = 2 ∨ M a 0 = 3 ∨ M a 0 = 4 ∨ M a 0 = 5  by omega) with c_4 | c_4 | c_4 | c_4 | c_4 | c_4
  · refine zV_tout (pc := 4) (tgt := 124) dX8_comes_4 (by omega) (by omega) (by decide) ?_
    refine zV_aload_n (pc := 124) (i := 0) dX8_comes_124 rfl rfl ?_
    refine zV_iload_n (pc := 125) (i := 1) dX8_comes_125 rfl rfl ?_
    refine zV_ivp (pc := 126) (ci := 8) dX8_comes_126 klX8_36 mX8_inRound ⟨by decide, rfl⟩ rfl ⟨Nat.zero_le _, Nat.zero_le _⟩ (kX8_inRound hO hk hn hp hb (by omega)) hO rfl rfl (Nat.le_of_ble_eq_true rfl) ?_
    refine zV_iret (pc := 129) dX8_comes_129 (by first | exact zok_b1 | exact zok_b0 | exact zok_b) ⟨Nat.zero_le _, Nat.zero_le _⟩ ?_
    exact ⟨by rw [c_4, zb_c zcm_0], rfl, rfl⟩
  · refine zV_tin (pc := 4) (tgt := 40) 0 dX8_comes_4 (by omega) (by decide) (by decide) rfl (by decide) ?_
    refine zV_aload_n (pc := 40) (i := 0) dX8_comes_40 rfl rfl ?_
    refine zV_iload_n (pc := 41) (i := 1) dX8_comes_41 rfl rfl ?_
    refine zV_ivp (pc := 42) (ci := 8) dX8_comes_42 klX8_28 mX8_lasts ⟨by decide, rfl⟩ rfl ⟨Nat.zero_le _, Nat.zero_le _⟩ (kX8_lasts hO hk hn hp hb (by omega)) hO rfl rfl (Nat.le_of_ble_eq_true rfl) ?_
    refine zV_iret (pc := 45) dX8_comes_45 (by first | exact zok_b1 | exact zok_b0 | exact zok_b) ⟨Nat.zero_le _, Nat.zero_le _⟩ ?_
    exact ⟨by rw [c_4, zb_c zcm_1], rfl, rfl⟩
  · refine zV_tin (pc := 4) (tgt := 46) 1 dX8_comes_4 (by omega) (by decide) (by decide) rfl (by decide) ?_
    refine zV_aload_n (pc := 46) (i := 0) dX8_comes_46 rfl rfl ?_
    refine zV_iload_n (pc := 47) (i := 1) dX8_comes_47 rfl rfl ?_
    refine zV_iload_n (pc := 48) (i := 2) dX8_comes_48 rfl rfl ?_
    refine zV_ivp (pc := 49) (ci := 8) dX8_comes_49 klX8_32 mX8_isPutOffTo ⟨by decide, rfl⟩ rfl ⟨Nat.zero_le _, Nat.zero_le _⟩ (kX8_isPutOffTo hO hk hn hp hb (by omega) hh) hO rfl rfl (Nat.le_of_ble_eq_true rfl) ?_
    refine zV_iret (pc := 52) dX8_comes_52 (by first | exact zok_b1 | exact zok_b0 | exact zok_b) ⟨Nat.zero_le _, Nat.zero_le _⟩ ?_
    exact ⟨by rw [c_4, zb_c zcm_2], rfl, rfl⟩
  · refine zV_tin (pc := 4) (tgt := 53) 2 dX8_comes_4 (by omega) (by decide) (by decide) rfl (by decide) ?_
    refine zV_aload_n (pc := 53) (i := 0) dX8_comes_53 rfl rfl ?_
    refine zV_iload_n (pc := 54) (i := 1) dX8_comes_54 rfl rfl ?_
    refine zV_ivp (pc := 55) (ci := 8) dX8_comes_55 klX8_28 mX8_lasts ⟨by decide, rfl⟩ rfl ⟨Nat.zero_le _, Nat.zero_le _⟩ (kX8_lasts hO hk hn hp hb (by omega)) hO rfl rfl (Nat.le_of_ble_eq_true rfl) ?_
    refine zV_if_neb (pc := 58) (tgt := 71) dX8_comes_58 (by decide) (fun c_58 => ?_) (fun c_58 => ?_)
    · refine zV_iconst (pc := 71) dX8_comes_71 ?_
      refine zV_goto (pc := 72) (tgt := 76) dX8_comes_72 (by decide) ?_
      refine zV_iret (pc := 76) dX8_comes_76 (by first | exact zok_b1 | exact zok_b0 | exact zok_b) ⟨Nat.zero_le _, Nat.zero_le _⟩ ?_
      rw [c_4, zb_c zcm_3]
      first
        | exact zPt (Or.inl c_58)
        | exact zPt (Or.inr c_68)
        | exact zPf (fun q => q.elim c_58 c_68)
    · refine zV_aload_n (pc := 61) (i := 0) dX8_comes_61 rfl rfl ?_
      refine zV_iload_n (pc := 62) (i := 1) dX8_comes_62 rfl rfl ?_
      refine zV_iconst (pc := 63) dX8_comes_63 ?_
      refine zV_iadd (pc := 64) dX8_comes_64 ?_
      refine zV_ivp (pc := 65) (ci := 8) dX8_comes_65 klX8_36 mX8_inRound ⟨by decide, rfl⟩ rfl ⟨Nat.zero_le _, Nat.zero_le _⟩ (kX8_inRound hO hk hn hp hb (by omega)) hO rfl rfl (Nat.le_of_ble_eq_true rfl) ?_
      refine zV_if_eqb (pc := 68) (tgt := 75) dX8_comes_68 (by decide) (fun c_68 => ?_) (fun c_68 => ?_)
      · refine zV_iconst (pc := 75) dX8_comes_75 ?_
        refine zV_iret (pc := 76) dX8_comes_76 (by first | exact zok_b1 | exact zok_b0 | exact zok_b) ⟨Nat.zero_le _, Nat.zero_le _⟩ ?_
        rw [c_4, zb_c zcm_3]
        first
          | exact zPt (Or.inl c_58)
          | exact zPt (Or.inr c_68)
          | exact zPf (fun q => q.elim c_58 c_68)
      · refine zV_iconst (pc := 71) dX8_comes_71 ?_
        refine zV_goto (pc := 72) (tgt := 76) dX8_comes_72 (by decide) ?_
        refine zV_iret (pc := 76) dX8_comes_76 (by first | exact zok_b1 | exact zok_b0 | exact zok_b) ⟨Nat.zero_le _, Nat.zero_le _⟩ ?_
        rw [c_4, zb_c zcm_3]
        first
          | exact zPt (Or.inl c_58)
          | exact zPt (Or.inr c_68)
          | exact zPf (fun q => q.elim c_58 c_68)
  · refine zV_tin (pc := 4) (tgt := 77) 3 dX8_comes_4 (by omega) (by decide) (by decide) rfl (by decide) ?_
    refine zV_aload_n (pc := 77) (i := 0) dX8_comes_77 rfl rfl ?_
    refine zV_iload_n (pc := 78) (i := 1) dX8_comes_78 rfl rfl ?_
    refine zV_ivp (pc := 79) (ci := 8) dX8_comes_79 klX8_36 mX8_inRound ⟨by decide, rfl⟩ rfl ⟨Nat.zero_le _, Nat.zero_le _⟩ (kX8_inRound hO hk hn hp hb (by omega)) hO rfl rfl (Nat.le_of_ble_eq_true rfl) ?_
    refine zV_if_eqb (pc := 82) (tgt := 97) dX8_comes_82 (by decide) (fun c_82 => ?_) (fun c_82 => ?_)
    · refine zV_iconst (pc := 97) dX8_comes_97 ?_
      refine zV_iret (pc := 98) dX8_comes_98 (by first | exact zok_b1 | exact zok_b0 | exact zok_b) ⟨Nat.zero_le _, Nat.zero_le _⟩ ?_
      rw [c_4, zb_c zcm_4]
      first
        | exact zPf (fun q => c_82 q.1)
        | exact zPf (fun q => q.2 c_90)
        | exact zPt ⟨c_82, c_90⟩
    · refine zV_iload_n (pc := 85) (i := 1) dX8_comes_85 rfl rfl ?_
      refine zV_iload_n (pc := 86) (i := 2) dX8_comes_86 rfl rfl ?_
      refine zV_isNp (pc := 87) dX8_comes_87 klX8_39 mX9_isHoliday rfl ⟨Nat.zero_le _, Nat.zero_le _⟩ (kX9_isHoliday (by omega) (by omega)) rfl rfl (Nat.le_of_ble_eq_true rfl) ?_
      refine zV_if_neb (pc := 90) (tgt := 97) dX8_comes_90 (by decide) (fun c_90 => ?_) (fun c_90 => ?_)
      · refine zV_iconst (pc := 97) dX8_comes_97 ?_
        refine zV_iret (pc := 98) dX8_comes_98 (by first | exact zok_b1 | exact zok_b0 | exact zok_b) ⟨Nat.zero_le _, Nat.zero_le _⟩ ?_
        rw [c_4, zb_c zcm_4]
        first
          | exact zPf (fun q => c_82 q.1)
          | exact zPf (fun q => q.2 c_90)
          | exact zPt ⟨c_82, c_90⟩
      · refine zV_iconst (pc := 93) dX8_comes_93 ?_
        refine zV_goto (pc := 94) (tgt := 98) dX8_comes_94 (by decide) ?_
        refine zV_iret (pc := 98) dX8_comes_98 (by first | exact zok_b1 | exact zok_b0 | exact zok_b) ⟨Nat.zero_le _, Nat.zero_le _⟩ ?_
        rw [c_4, zb_c zcm_4]
        first
          | exact zPf (fun q => c_82 q.1)
          | exact zPf (fun q => q.2 c_90)
          | exact zPt ⟨c_82, c_90⟩
  · refine zV_tin (pc := 4) (tgt := 99) 4 dX8_comes_4 (by omega) (by decide) (by decide) rfl (by decide) ?_
    refine zV_aload_n (pc := 99) (i := 0) dX8_comes_99 rfl rfl ?_
    refine zV_iload_n (pc := 100) (i := 1) dX8_comes_100 rfl rfl ?_
    refine zV_ivp (pc := 101) (ci := 8) dX8_comes_101 klX8_36 mX8_inRound ⟨by decide, rfl⟩ rfl ⟨Nat.zero_le _, Nat.zero_le _⟩ (kX8_inRound hO hk hn hp hb (by omega)) hO rfl rfl (Nat.le_of_ble_eq_true rfl) ?_
    refine zV_if_neb (pc := 104) (tgt := 118) dX8_comes_104 (by decide) (fun c_104 => ?_) (fun c_104 => ?_)
    · refine zV_iconst (pc := 118) dX8_comes_118 ?_
      refine zV_goto (pc := 119) (tgt := 123) dX8_comes_119 (by decide) ?_
      refine zV_iret (pc := 123) dX8_comes_123 (by first | exact zok_b1 | exact zok_b0 | exact zok_b) ⟨Nat.zero_le _, Nat.zero_le _⟩ ?_
      rw [c_4, zb_c zcm_5]
      first
        | exact zPt (Or.inl c_104)
        | exact zPf (fun q => q.elim c_104 (fun q => by omega))
        | exact zPt (Or.inr (by omega))
    · refine zV_iload_n (pc := 107) (i := 1) dX8_comes_107 rfl rfl ?_
      refine zV_bipush (pc := 108) dX8_comes_108 (by decide) ?_
      refine zV_iremN (pc := 110) dX8_comes_110 (by omega) (by omega) ?_
      refine zV_aload_n (pc := 111) (i := 0) dX8_comes_111 rfl rfl ?_
      refine zV_get (pc := 112) (j := 1) dX8_comes_112 flX8_18 hO rfl rfl ?_
      refine zV_icmp_ne (pc := 115) (tgt := 122) dX8_comes_115 (by decide) (by omega) (fun c_115 => ?_) (fun c_115 => ?_)
      · refine zV_iconst (pc := 122) dX8_comes_122 ?_
        refine zV_iret (pc := 123) dX8_comes_123 (by first | exact zok_b1 | exact zok_b0 | exact zok_b) ⟨Nat.zero_le _, Nat.zero_le _⟩ ?_
        rw [c_4, zb_c zcm_5]
        first
          | exact zPt (Or.inl c_104)
          | exact zPf (fun q => q.elim c_104 (fun q => by omega))
          | exact zPt (Or.inr (by omega))
      · refine zV_iconst (pc := 118) dX8_comes_118 ?_
        refine zV_goto (pc := 119) (tgt := 123) dX8_comes_119 (by decide) ?_
        refine zV_iret (pc := 123) dX8_comes_123 (by first | exact zok_b1 | exact zok_b0 | exact zok_b) ⟨Nat.zero_le _, Nat.zero_le _⟩ ?_
        rw [c_4, zb_c zcm_5]
        first
          | exact zPt (Or.inl c_104)
          | exact zPf (fun q => q.elim c_104 (fun q => by omega))
          | exact zPt (Or.inr (by omega))
end
