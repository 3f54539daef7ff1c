/-! feed; a diary is cleared, a day is in a round (printed by wip/whole/p33.py) -/
section
variable {g : zG} {N : Nat} {M : zM}
set_option maxRecDepth 20000 in
set_option maxHeartbeats 2000000 in
theorem kX3_add (hS : zSt M) (hz : 0 ≤ M 18 1 ∧ M 18 1 ≤ 160) {x : Int} : zK g yX3_add xX3_add [zr 18, zi x] 75 M (fun w N' M1 => N' = 75 ∧ ((M 18 1 = 160 ∧ w = some (zi (-4)) ∧ M1 = M) ∨ (M 18 1 < 160 ∧ w = some (zi (M 18 1 + 1)) ∧ M1 = zU (zU M 19 (M 18 1) x) 18 1 (M 18 1 + 1)))) := by
  refine zK_of (ls0 := [zr 18, zi x]) (by decide) rfl (by decide) rfl (Nat.le_of_ble_eq_true rfl) ?_
  refine zV_aload_n (pc := 0) (i := 0) dX3_add_0 rfl rfl ?_
  refine zV_get (pc := 1) (j := 1) dX3_add_1 flX3_15 (zOb_of rfl) rfl rfl ?_
  refine zV_aload_n (pc := 4) (i := 0) dX3_add_4 rfl rfl ?_
  refine zV_get (pc := 5) (j := 0) dX3_add_5 flX3_9 (zOb_of rfl) rfl hS.e18_0 ?_
  refine zV_alen (pc := 8) dX3_add_8 (zAr_of rfl : zAr 75 19 0 160) ?_
  refine zV_icmp_lt (pc := 9) (tgt := 15) dX3_add_9 (by decide) (by omega) (fun c_9 => ?_) (fun c_9 => ?_)
  · refine zV_aload_n (pc := 15) (i := 0) dX3_add_15 rfl rfl ?_
    refine zV_get (pc := 16) (j := 0) dX3_add_16 flX3_9 (zOb_of rfl) rfl hS.e18_0 ?_
    refine zV_aload_n (pc := 19) (i := 0) dX3_add_19 rfl rfl ?_
    refine zV_get (pc := 20) (j := 1) dX3_add_20 flX3_15 (zOb_of rfl) rfl rfl ?_
    refine zV_iload_n (pc := 23) (i := 1) dX3_add_23 rfl rfl ?_
    refine zV_iast (pc := 24) dX3_add_24 (zAr_of rfl : zAr 75 19 0 160) (by omega) ?_
    refine zV_aload_n (pc := 25) (i := 0) dX3_add_25 rfl rfl ?_
    refine zV_dup (pc := 26) dX3_add_26 (by simp) ?_
    refine zV_get (pc := 27) (j := 1) dX3_add_27 flX3_15 (zOb_of rfl) rfl (zU_a _ _ _ _ (by decide)) ?_
    refine zV_iconst (pc := 30) dX3_add_30 ?_
    refine zV_iadd (pc := 31) dX3_add_31 ?_
    refine zV_put (pc := 32) (j := 1) dX3_add_32 flX3_15 rfl (zOb_of rfl) rfl trivial ?_
    refine zV_aload_n (pc := 35) (i := 0) dX3_add_35 rfl rfl ?_
    refine zV_get (pc := 36) (j := 1) dX3_add_36 flX3_15 (zOb_of rfl) rfl (zU_s _ _ _ _) ?_
    refine zV_iret (pc := 39) dX3_add_39 trivial ⟨Nat.zero_le _, Nat.zero_le _⟩ ?_
    exact ⟨rfl, Or.inr ⟨by omega, rfl, rfl⟩⟩
  · refine zV_bipush (pc := 12) dX3_add_12 (by decide) ?_
    refine zV_iret (pc := 14) dX3_add_14 trivial ⟨Nat.zero_le _, Nat.zero_le _⟩ ?_
    exact ⟨rfl, Or.inl ⟨by omega, rfl, rfl⟩⟩
set_option maxRecDepth 20000 in
set_option maxHeartbeats 2000000 in
theorem kX9_feed (hS : zSt M) (hz : 0 ≤ M 18 1 ∧ M 18 1 ≤ 160) {x : Int} (hx : -2147483648 ≤ x ∧ x ≤ 2147483647) : zK g yX9_feed xX9_feed [zr 0, zi x] 75 M (fun w N' M1 => N' = 75 ∧ ((¬ (0 ≤ x ∧ x ≤ 255) ∧ w = some (zi (-2)) ∧ M1 = M) ∨ ((0 ≤ x ∧ x ≤ 255) ∧ M 18 1 = 160 ∧ w = some (zi (-4)) ∧ M1 = M) ∨ ((0 ≤ x ∧ x ≤ 255) ∧ M 18 1 < 160 ∧ w = some (zi (M 18 1 + 1)) ∧ M1 = zU (zU M 19 (M 18 1) x) 18 1 (M 18 1 + 1)))) := by
  refine zK_of (ls0 := [zr 0, zi x]) (by decide) rfl (by decide) rfl (Nat.le_of_ble_eq_true rfl) ?_
  refine zV_iload_n (pc := 0) (i := 1) dX9_feed_0 rfl rfl ?_
  refine zV_iconst (pc := 1) dX9_feed_1 ?_
  refine zV_sipush (pc := 2) dX9_feed_2 (by decide) ?_
  refine zV_isp (pc := 5) dX9_feed_5 klX9_119 mX9_within rfl ⟨Nat.zero_le _, Nat.zero_le _⟩ (kX9_within (by omega) (by omega) (by omega)) rfl rfl (Nat.le_of_ble_eq_true rfl) ?_
  refine zV_if_neb (pc := 8) (tgt := 14) dX9_feed_8 (by decide) (fun c_8 => ?_) (fun c_8 => ?_)
  · refine zV_aload_n (pc := 14) (i := 0) dX9_feed_14 rfl rfl ?_
    refine zV_get (pc := 15) (j := 5) dX9_feed_15 flX9_28 (zOb_of rfl) rfl hS.e0_5 ?_
    refine zV_iload_n (pc := 18) (i := 1) dX9_feed_18 rfl rfl ?_
    refine zV_ivs (pc := 19) (ci := 3) dX9_feed_19 klX9_73 mX3_add ⟨by decide, rfl⟩ rfl ⟨Nat.zero_le _, Nat.zero_le _⟩ (kX3_add hS hz) (zOb_of rfl) rfl rfl (Nat.le_of_ble_eq_true rfl) ?_
    rintro w N9 M1 ⟨rfl, ⟨q0, rfl, rfl⟩ | ⟨q0, rfl, rfl⟩⟩
    · refine zV_iret (pc := 22) dX9_feed_22 trivial ⟨Nat.zero_le _, Nat.zero_le _⟩ ?_
      exact ⟨rfl, Or.inr (Or.inl ⟨c_8, q0, rfl, rfl⟩)⟩
    · refine zV_iret (pc := 22) dX9_feed_22 trivial ⟨Nat.zero_le _, Nat.zero_le _⟩ ?_
      exact ⟨rfl, Or.inr (Or.inr ⟨c_8, q0, rfl, rfl⟩)⟩
  · refine zV_bipush (pc := 11) dX9_feed_11 (by decide) ?_
    refine zV_iret (pc := 13) dX9_feed_13 trivial ⟨Nat.zero_le _, Nat.zero_le _⟩ ?_
    exact ⟨rfl, Or.inl ⟨c_8, rfl, rfl⟩⟩
end
