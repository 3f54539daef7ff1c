/-! THE CLASS: small methods, and whether a thing comes (printed by wip/whole/p09.py) -/
section
variable {g : zG} {N : Nat} {M : zM}
set_option maxRecDepth 20000 in
set_option maxHeartbeats 2000000 in
theorem kX9_within {v a b : Int} (hv : -2147483648 ≤ v ∧ v ≤ 2147483647) (ha : -2147483648 ≤ a ∧ a ≤ 2147483647) (hb : -2147483648 ≤ b ∧ b ≤ 2147483647) : zK g yX9_within xX9_within [zi v, zi a, zi b] N M (zPp (zi (zb (a ≤ v ∧ v ≤ b))) N M) := by
  refine zK_of (by decide) rfl (by decide) rfl (Nat.le_of_ble_eq_true rfl) ?_
  refine zV_iload_n (pc := 0) (i := 0) dX9_within_0 rfl rfl ?_
  refine zV_iload_n (pc := 1) (i := 1) dX9_within_1 rfl rfl ?_
  refine zV_icmp_lt (pc := 2) (tgt := 14) dX9_within_2 (by decide) (by omega) (fun c_2 => ?_) (fun c_2 => ?_)
  · refine zV_iconst (pc := 14) dX9_within_14 ?_
    refine zV_iret (pc := 15) dX9_within_15 (by first | exact zok_b1 | exact zok_b0 | exact zok_b) ⟨Nat.zero_le _, Nat.zero_le _⟩ ?_
    first
      | exact ⟨by rw [zb_t (by omega)], rfl, rfl⟩
      | exact ⟨by rw [zb_f (by omega)], rfl, rfl⟩
  · refine zV_iload_n (pc := 5) (i := 0) dX9_within_5 rfl rfl ?_
    refine zV_iload_n (pc := 6) (i := 2) dX9_within_6 rfl rfl ?_
    refine zV_icmp_gt (pc := 7) (tgt := 14) dX9_within_7 (by decide) (by omega) (fun c_7 => ?_) (fun c_7 => ?_)
    · refine zV_iconst (pc := 14) dX9_within_14 ?_
      refine zV_iret (pc := 15) dX9_within_15 (by first | exact zok_b1 | exact zok_b0 | exact zok_b) ⟨Nat.zero_le _, Nat.zero_le _⟩ ?_
      first
        | exact ⟨by rw [zb_t (by omega)], rfl, rfl⟩
        | exact ⟨by rw [zb_f (by omega)], rfl, rfl⟩
    · refine zV_iconst (pc := 10) dX9_within_10 ?_
      refine zV_goto (pc := 11) (tgt := 15) dX9_within_11 (by decide) ?_
      refine zV_iret (pc := 15) dX9_within_15 (by first | exact zok_b1 | exact zok_b0 | exact zok_b) ⟨Nat.zero_le _, Nat.zero_le _⟩ ?_
      first
        | exact ⟨by rw [zb_t (by omega)], rfl, rfl⟩
        | exact ⟨by rw [zb_f (by omega)], rfl, rfl⟩
set_option maxRecDepth 20000 in
set_option maxHeartbeats 2000000 in
theorem kX9_hasBit {s i : Int} (hs : 0 ≤ s ∧ s ≤ 2147483647) (hi : 0 ≤ i ∧ i ≤ 31) : zK g yX9_hasBit xX9_hasBit [zi s, zi i] N M (zPp (zi (zb (zbt s i))) N M) := by
  refine zK_of (by decide) rfl (by decide) rfl (Nat.le_of_ble_eq_true rfl) ?_
  have h0 : 0 ≤ s / 2 ^ i.toNat := Int.ediv_nonneg hs.1 (Int.le_of_lt (Int.pow_pos (by decide)))
  refine zV_iload_n (pc := 0) (i := 0) dX9_hasBit_0 rfl rfl ?_
  refine zV_iload_n (pc := 1) (i := 1) dX9_hasBit_1 rfl rfl ?_
  refine zV_ishr (pc := 2) dX9_hasBit_2 (z_shr (by omega) hi rfl) ?_
  refine zV_iconst (pc := 3) dX9_hasBit_3 ?_
  refine zV_iand (pc := 4) dX9_hasBit_4 (z_and1 h0) ?_
  refine zV_if_eq (pc := 5) (tgt := 12) dX9_hasBit_5 (by decide) (by omega) (fun c_5 => ?_) (fun c_5 => ?_)
  · refine zV_iconst (pc := 12) dX9_hasBit_12 ?_
    refine zV_iret (pc := 13) dX9_hasBit_13 (by first | exact zok_b1 | exact zok_b0 | exact zok_b) ⟨Nat.zero_le _, Nat.zero_le _⟩ ?_
    first
      | exact ⟨by rw [zb_t (by unfold zbt; omega)], rfl, rfl⟩
      | exact ⟨by rw [zb_f (by unfold zbt; omega)], rfl, rfl⟩
  · refine zV_iconst (pc := 8) dX9_hasBit_8 ?_
    refine zV_goto (pc := 9) (tgt := 13) dX9_hasBit_9 (by decide) ?_
    refine zV_iret (pc := 13) dX9_hasBit_13 (by first | exact zok_b1 | exact zok_b0 | exact zok_b) ⟨Nat.zero_le _, Nat.zero_le _⟩ ?_
    first
      | exact ⟨by rw [zb_t (by unfold zbt; omega)], rfl, rfl⟩
      | exact ⟨by rw [zb_f (by unfold zbt; omega)], rfl, rfl⟩
set_option maxRecDepth 20000 in
set_option maxHeartbeats 2000000 in
theorem kX9_isDay {v : Int} (hv : -2147483648 ≤ v ∧ v ≤ 2147483647) : zK g yX9_isDay xX9_isDay [zi v] N M (zPp (zi (zb (0 ≤ v ∧ v ≤ 399))) N M) := by
  refine zK_of (by decide) rfl (by decide) rfl (Nat.le_of_ble_eq_true rfl) ?_
  refine zV_iload_n (pc := 0) (i := 0) dX9_isDay_0 rfl rfl ?_
  refine zV_iconst (pc := 1) dX9_isDay_1 ?_
  refine zV_sipush (pc := 2) dX9_isDay_2 (by decide) ?_
  refine zV_isp (pc := 5) dX9_isDay_5 klX9_119 mX9_within rfl ⟨Nat.zero_le _, Nat.zero_le _⟩ (kX9_within (by omega) (by omega) (by omega)) rfl rfl (by decide) ?_
  refine zV_iret (pc := 8) dX9_isDay_8 (by first | exact zok_b1 | exact zok_b0 | exact zok_b) ⟨Nat.zero_le _, Nat.zero_le _⟩ ?_
  exact ⟨rfl, rfl, rfl⟩
set_option maxRecDepth 20000 in
set_option maxHeartbeats 2000000 in
theorem kX9_isSheet {v : Int} (hv : -2147483648 ≤ v ∧ v ≤ 2147483647) : zK g yX9_isSheet xX9_isSheet [zi v] N M (zPp (zi (zb (0 ≤ v ∧ v ≤ 3))) N M) := by
  refine zK_of (by decide) rfl (by decide) rfl (Nat.le_of_ble_eq_true rfl) ?_
  refine zV_iload_n (pc := 0) (i := 0) dX9_isSheet_0 rfl rfl ?_
  refine zV_iconst (pc := 1) dX9_isSheet_1 ?_
  refine zV_iconst (pc := 2) dX9_isSheet_2 ?_
  refine zV_isp (pc := 3) dX9_isSheet_3 klX9_119 mX9_within rfl ⟨Nat.zero_le _, Nat.zero_le _⟩ (kX9_within (by omega) (by omega) (by omega)) rfl rfl (by decide) ?_
  refine zV_iret (pc := 6) dX9_isSheet_6 (by first | exact zok_b1 | exact zok_b0 | exact zok_b) ⟨Nat.zero_le _, Nat.zero_le _⟩ ?_
  exact ⟨rfl, rfl, rfl⟩
set_option maxRecDepth 20000 in
set_option maxHeartbeats 2000000 in
theorem kX9_isHoliday {d h : Int} (hd : 0 ≤ d ∧ d ≤ 2147483647) (hh : 0 ≤ h ∧ h ≤ 127) : zK g yX9_isHoliday xX9_isHoliday [zi d, zi h] N M (zPp (zi (zb (zhd h d))) N M) := by
  refine zK_of (by decide) rfl (by decide) rfl (Nat.le_of_ble_eq_true rfl) ?_
  refine zV_iload_n (pc := 0) (i := 1) dX9_isHoliday_0 rfl rfl ?_
  refine zV_iload_n (pc := 1) (i := 0) dX9_isHoliday_1 rfl rfl ?_
  refine zV_bipush (pc := 2) dX9_isHoliday_2 (by decide) ?_
  refine zV_iremN (pc := 4) dX9_isHoliday_4 (by omega) (by omega) ?_
  refine zV_isp (pc := 5) dX9_isHoliday_5 klX9_197 mX9_hasBit rfl ⟨Nat.zero_le _, Nat.zero_le _⟩ (kX9_hasBit (by omega) (by omega)) rfl rfl (by decide) ?_
  refine zV_iret (pc := 8) dX9_isHoliday_8 (by first | exact zok_b1 | exact zok_b0 | exact zok_b) ⟨Nat.zero_le _, Nat.zero_le _⟩ ?_
  exact ⟨by rw [zb_c (show zhd h d ↔ zbt h (d % 7) from ⟨fun q => q.2, fun q => ⟨hd.1, q⟩⟩)], rfl, rfl⟩
set_option maxRecDepth 20000 in
set_option maxHeartbeats 2000000 in
theorem kX8_inRound {a d : Int} (hO : zOb N a 8) (hk : 0 ≤ M a 0 ∧ M a 0 ≤ 5) (hn : 0 ≤ M a 1 ∧ M a 1 ≤ 9) (hp : 1 ≤ M a 2 ∧ M a 2 ≤ 60) (hb : 0 ≤ M a 3 ∧ M a 3 ≤ 59) (hd : 0 ≤ d ∧ d ≤ 1000) : zK g yX8_inRound xX8_inRound [zr a, zi d] N M (zPp (zi (zb (zrd (M a 2) (M a 3) d))) N M) := by
  refine zK_of (by decide) rfl (by decide) rfl (Nat.le_of_ble_eq_true rfl) ?_
  refine zV_iload_n (pc := 0) (i := 1) dX8_inRound_0 rfl rfl ?_
  refine zV_aload_n (pc := 1) (i := 0) dX8_inRound_1 rfl rfl ?_
  refine zV_get (pc := 2) (j := 3) dX8_inRound_2 flX8_21 hO rfl rfl ?_
  refine zV_icmp_lt (pc := 5) (tgt := 33) dX8_inRound_5 (by decide) (by omega) (fun c_5 => ?_) (fun c_5 => ?_)
  · refine zV_iconst (pc := 33) dX8_inRound_33 ?_
    refine zV_iret (pc := 34) dX8_inRound_34 (by first | exact zok_b1 | exact zok_b0 | exact zok_b) ⟨Nat.zero_le _, Nat.zero_le _⟩ ?_
    first
      | exact ⟨by rw [zb_t (show zrd (M a 2) (M a 3) d from ⟨by omega, by omega⟩)], rfl, rfl⟩
      | exact ⟨by rw [zb_f (show ¬ zrd (M a 2) (M a 3) d from fun q => by have := q.1; have := q.2; omega)], rfl, rfl⟩
  · refine zV_aload_n (pc := 8) (i := 0) dX8_inRound_8 rfl rfl ?_
    refine zV_get (pc := 9) (j := 2) dX8_inRound_9 flX8_15 hO rfl rfl ?_
    refine zV_if_le (pc := 12) (tgt := 33) dX8_inRound_12 (by decide) (by omega) (fun c_12 => ?_) (fun c_12 => ?_)
    · refine zV_iconst (pc := 33) dX8_inRound_33 ?_
      refine zV_iret (pc := 34) dX8_inRound_34 (by first | exact zok_b1 | exact zok_b0 | exact zok_b) ⟨Nat.zero_le _, Nat.zero_le _⟩ ?_
      first
        | exact ⟨by rw [zb_t (show zrd (M a 2) (M a 3) d from ⟨by omega, by omega⟩)], rfl, rfl⟩
        | exact ⟨by rw [zb_f (show ¬ zrd (M a 2) (M a 3) d from fun q => by have := q.1; have := q.2; omega)], rfl, rfl⟩
    · refine zV_iload_n (pc := 15) (i := 1) dX8_inRound_15 rfl rfl ?_
      refine zV_aload_n (pc := 16) (i := 0) dX8_inRound_16 rfl rfl ?_
      refine zV_get (pc := 17) (j := 3) dX8_inRound_17 flX8_21 hO rfl rfl ?_
      refine zV_isub (pc := 20) dX8_inRound_20 ?_
      refine zV_aload_n (pc := 21) (i := 0) dX8_inRound_21 rfl rfl ?_
      refine zV_get (pc := 22) (j := 2) dX8_inRound_22 flX8_15 hO rfl rfl ?_
      refine zV_iremN (pc := 25) dX8_inRound_25 (by omega) (by omega) ?_
      refine zV_if_ne (pc := 26) (tgt := 33) dX8_inRound_26 (by decide) (by have := zrd_r (d := d) (b := M a 3) (p := M a 2) (by omega) (by omega); omega) (fun c_26 => ?_) (fun c_26 => ?_)
      · refine zV_iconst (pc := 33) dX8_inRound_33 ?_
        refine zV_iret (pc := 34) dX8_inRound_34 (by first | exact zok_b1 | exact zok_b0 | exact zok_b) ⟨Nat.zero_le _, Nat.zero_le _⟩ ?_
        first
          | exact ⟨by rw [zb_t (show zrd (M a 2) (M a 3) d from ⟨by omega, by omega⟩)], rfl, rfl⟩
          | exact ⟨by rw [zb_f (show ¬ zrd (M a 2) (M a 3) d from fun q => by have := q.1; have := q.2; omega)], rfl, rfl⟩
      · refine zV_iconst (pc := 29) dX8_inRound_29 ?_
        refine zV_goto (pc := 30) (tgt := 34) dX8_inRound_30 (by decide) ?_
        refine zV_iret (pc := 34) dX8_inRound_34 (by first | exact zok_b1 | exact zok_b0 | exact zok_b) ⟨Nat.zero_le _, Nat.zero_le _⟩ ?_
        first
          | exact ⟨by rw [zb_t (show zrd (M a 2) (M a 3) d from ⟨by omega, by omega⟩)], rfl, rfl⟩
          | exact ⟨by rw [zb_f (show ¬ zrd (M a 2) (M a 3) d from fun q => by have := q.1; have := q.2; omega)], rfl, rfl⟩
set_option maxRecDepth 20000 in
set_option maxHeartbeats 2000000 in
theorem kX8_lasts {a d : Int} (hO : zOb N a 8) (hk : 0 ≤ M a 0 ∧ M a 0 ≤ 5) (hn : 0 ≤ M a 1 ∧ M a 1 ≤ 9) (hp : 1 ≤ M a 2 ∧ M a 2 ≤ 60) (hb : 0 ≤ M a 3 ∧ M a 3 ≤ 59) (hd : 0 ≤ d ∧ d ≤ 1000) : zK g yX8_lasts xX8_lasts [zr a, zi d] N M (zPp (zi (zb (zls (M a 1) (M a 2) (M a 3) d))) N M) := by
  refine zK_of (by decide) rfl (by decide) rfl (Nat.le_of_ble_eq_true rfl) ?_
  refine zV_iload_n (pc := 0) (i := 1) dX8_lasts_0 rfl rfl ?_
  refine zV_aload_n (pc := 1) (i := 0) dX8_lasts_1 rfl rfl ?_
  refine zV_get (pc := 2) (j := 3) dX8_lasts_2 flX8_21 hO rfl rfl ?_
  refine zV_icmp_lt (pc := 5) (tgt := 37) dX8_lasts_5 (by decide) (by omega) (fun c_5 => ?_) (fun c_5 => ?_)
  · refine zV_iconst (pc := 37) dX8_lasts_37 ?_
    refine zV_iret (pc := 38) dX8_lasts_38 (by first | exact zok_b1 | exact zok_b0 | exact zok_b) ⟨Nat.zero_le _, Nat.zero_le _⟩ ?_
    first
      | exact ⟨by rw [zb_t (show zls (M a 1) (M a 2) (M a 3) d from ⟨by omega, by omega⟩)], rfl, rfl⟩
      | exact ⟨by rw [zb_f (show ¬ zls (M a 1) (M a 2) (M a 3) d from fun q => by have := q.1; have := q.2; omega)], rfl, rfl⟩
  · refine zV_aload_n (pc := 8) (i := 0) dX8_lasts_8 rfl rfl ?_
    refine zV_get (pc := 9) (j := 2) dX8_lasts_9 flX8_15 hO rfl rfl ?_
    refine zV_if_le (pc := 12) (tgt := 37) dX8_lasts_12 (by decide) (by omega) (fun c_12 => ?_) (fun c_12 => ?_)
    · refine zV_iconst (pc := 37) dX8_lasts_37 ?_
      refine zV_iret (pc := 38) dX8_lasts_38 (by first | exact zok_b1 | exact zok_b0 | exact zok_b) ⟨Nat.zero_le _, Nat.zero_le _⟩ ?_
      first
        | exact ⟨by rw [zb_t (show zls (M a 1) (M a 2) (M a 3) d from ⟨by omega, by omega⟩)], rfl, rfl⟩
        | exact ⟨by rw [zb_f (show ¬ zls (M a 1) (M a 2) (M a 3) d from fun q => by have := q.1; have := q.2; omega)], rfl, rfl⟩
    · refine zV_iload_n (pc := 15) (i := 1) dX8_lasts_15 rfl rfl ?_
      refine zV_aload_n (pc := 16) (i := 0) dX8_lasts_16 rfl rfl ?_
      refine zV_get (pc := 17) (j := 3) dX8_lasts_17 flX8_21 hO rfl rfl ?_
      refine zV_isub (pc := 20) dX8_lasts_20 ?_
      refine zV_aload_n (pc := 21) (i := 0) dX8_lasts_21 rfl rfl ?_
      refine zV_get (pc := 22) (j := 2) dX8_lasts_22 flX8_15 hO rfl rfl ?_
      refine zV_iremN (pc := 25) dX8_lasts_25 (by omega) (by omega) ?_
      refine zV_aload_n (pc := 26) (i := 0) dX8_lasts_26 rfl rfl ?_
      refine zV_get (pc := 27) (j := 1) dX8_lasts_27 flX8_18 hO rfl rfl ?_
      refine zV_icmp_gt (pc := 30) (tgt := 37) dX8_lasts_30 (by decide) (by have := zrd_r (d := d) (b := M a 3) (p := M a 2) (by omega) (by omega); omega) (fun c_30 => ?_) (fun c_30 => ?_)
      · refine zV_iconst (pc := 37) dX8_lasts_37 ?_
        refine zV_iret (pc := 38) dX8_lasts_38 (by first | exact zok_b1 | exact zok_b0 | exact zok_b) ⟨Nat.zero_le _, Nat.zero_le _⟩ ?_
        first
          | exact ⟨by rw [zb_t (show zls (M a 1) (M a 2) (M a 3) d from ⟨by omega, by omega⟩)], rfl, rfl⟩
          | exact ⟨by rw [zb_f (show ¬ zls (M a 1) (M a 2) (M a 3) d from fun q => by have := q.1; have := q.2; omega)], rfl, rfl⟩
      · refine zV_iconst (pc := 33) dX8_lasts_33 ?_
        refine zV_goto (pc := 34) (tgt := 38) dX8_lasts_34 (by decide) ?_
        refine zV_iret (pc := 38) dX8_lasts_38 (by first | exact zok_b1 | exact zok_b0 | exact zok_b) ⟨Nat.zero_le _, Nat.zero_le _⟩ ?_
        first
          | exact ⟨by rw [zb_t (show zls (M a 1) (M a 2) (M a 3) d from ⟨by omega, by omega⟩)], rfl, rfl⟩
          | exact ⟨by rw [zb_f (show ¬ zls (M a 1) (M a 2) (M a 3) d from fun q => by have := q.1; have := q.2; omega)], rfl, rfl⟩
end
