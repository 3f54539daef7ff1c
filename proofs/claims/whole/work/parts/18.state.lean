/-! THE CLASS: set, thing, told, force, count, image, back, taken (printed by wip/whole/p18.py) -/
def zRg (k v : Int) : Prop := (k = 0 ∧ 0 ≤ v ∧ v ≤ 5) ∨ (k = 1 ∧ 0 ≤ v ∧ v ≤ 9) ∨ (k = 2 ∧ 1 ≤ v ∧ v ≤ 60) ∨ (k = 3 ∧ 0 ≤ v ∧ v ≤ 59)
/-- may be set -/
def zstOK (n k i v : Int) : Prop := (k = 0 ∧ 0 ≤ v ∧ v ≤ 127) ∨ (1 ≤ k ∧ k ≤ 3 ∧ (0 ≤ i ∧ i < n) ∧ zRg k v)
/-- a thing that may be -/
def zthOK (k n x : Int) : Prop := (0 ≤ k ∧ k ≤ 5) ∧ (0 ≤ n ∧ n ≤ 9) ∧ (1 ≤ x.tdiv 100 ∧ x.tdiv 100 ≤ 60) ∧ (0 ≤ x.tmod 100 ∧ x.tmod 100 ≤ 59)
/-- an answer z and nothing changed -/
def zBad (z : Int) (M : zM) : zP := fun v N' M' => v = some (zi z) ∧ N' = 75 ∧ M' = M
section
variable {g : zG} {N : Nat} {M : zM}
set_option maxRecDepth 20000 in
set_option maxHeartbeats 2000000 in
theorem kX9_mayBe {k v : Int} (hk : -2147483648 ≤ k ∧ k ≤ 2147483647) (hv : -2147483648 ≤ v ∧ v ≤ 2147483647) : zK g yX9_mayBe xX9_mayBe [zi k, zi v] N M (zPp (zi (zb (zRg k v))) N M) := by
  refine zK_of (ls0 := [zi k, zi v]) (by decide) rfl (by decide) rfl (Nat.le_of_ble_eq_true rfl) ?_
  refine zV_iload_n (pc := 0) (i := 0) dX9_mayBe_0 rfl rfl ?_
  rcases (show k = 0 ∨ k = 1 ∨ k = 2 ∨ k = 3 ∨ (k < 0 ∨ 3 < k)  by omega) with c_1 | c_1 | c_1 | c_1 | c_1
  · refine zV_tin (pc := 1) (tgt := 32) 0 dX9_mayBe_1 (by omega) (by decide) (by decide) rfl (by decide) ?_
    refine zV_iload_n (pc := 32) (i := 1) dX9_mayBe_32 rfl rfl ?_
    refine zV_iconst (pc := 33) dX9_mayBe_33 ?_
    refine zV_iconst (pc := 34) dX9_mayBe_34 ?_
    refine zV_isp (pc := 35) dX9_mayBe_35 klX9_119 mX9_within rfl ⟨Nat.zero_le _, Nat.zero_le _⟩ (kX9_within (by omega) (by omega) (by omega)) rfl rfl (Nat.le_of_ble_eq_true rfl) ?_
    refine zV_iret (pc := 38) dX9_mayBe_38 (by first | exact zok_b1 | exact zok_b0 | exact zok_b) ⟨Nat.zero_le _, Nat.zero_le _⟩ ?_
    exact zPc (by unfold zRg; omega)
  · refine zV_tin (pc := 1) (tgt := 39) 1 dX9_mayBe_1 (by omega) (by decide) (by decide) rfl (by decide) ?_
    refine zV_iload_n (pc := 39) (i := 1) dX9_mayBe_39 rfl rfl ?_
    refine zV_iconst (pc := 40) dX9_mayBe_40 ?_
    refine zV_bipush (pc := 41) dX9_mayBe_41 (by decide) ?_
    refine zV_isp (pc := 43) dX9_mayBe_43 klX9_119 mX9_within rfl ⟨Nat.zero_le _, Nat.zero_le _⟩ (kX9_within (by omega) (by omega) (by omega)) rfl rfl (Nat.le_of_ble_eq_true rfl) ?_
    refine zV_iret (pc := 46) dX9_mayBe_46 (by first | exact zok_b1 | exact zok_b0 | exact zok_b) ⟨Nat.zero_le _, Nat.zero_le _⟩ ?_
    exact zPc (by unfold zRg; omega)
  · refine zV_tin (pc := 1) (tgt := 47) 2 dX9_mayBe_1 (by omega) (by decide) (by decide) rfl (by decide) ?_
    refine zV_iload_n (pc := 47) (i := 1) dX9_mayBe_47 rfl rfl ?_
    refine zV_iconst (pc := 48) dX9_mayBe_48 ?_
    refine zV_bipush (pc := 49) dX9_mayBe_49 (by decide) ?_
    refine zV_isp (pc := 51) dX9_mayBe_51 klX9_119 mX9_within rfl ⟨Nat.zero_le _, Nat.zero_le _⟩ (kX9_within (by omega) (by omega) (by omega)) rfl rfl (Nat.le_of_ble_eq_true rfl) ?_
    refine zV_iret (pc := 54) dX9_mayBe_54 (by first | exact zok_b1 | exact zok_b0 | exact zok_b) ⟨Nat.zero_le _, Nat.zero_le _⟩ ?_
    exact zPc (by unfold zRg; omega)
  · refine zV_tin (pc := 1) (tgt := 55) 3 dX9_mayBe_1 (by omega) (by decide) (by decide) rfl (by decide) ?_
    refine zV_iload_n (pc := 55) (i := 1) dX9_mayBe_55 rfl rfl ?_
    refine zV_iconst (pc := 56) dX9_mayBe_56 ?_
    refine zV_bipush (pc := 57) dX9_mayBe_57 (by decide) ?_
    refine zV_isp (pc := 59) dX9_mayBe_59 klX9_119 mX9_within rfl ⟨Nat.zero_le _, Nat.zero_le _⟩ (kX9_within (by omega) (by omega) (by omega)) rfl rfl (Nat.le_of_ble_eq_true rfl) ?_
    refine zV_iret (pc := 62) dX9_mayBe_62 (by first | exact zok_b1 | exact zok_b0 | exact zok_b) ⟨Nat.zero_le _, Nat.zero_le _⟩ ?_
    exact zPc (by unfold zRg; omega)
  · refine zV_tout (pc := 1) (tgt := 63) dX9_mayBe_1 (by omega) (by omega) (by decide) ?_
    refine zV_iconst (pc := 63) dX9_mayBe_63 ?_
    refine zV_iret (pc := 64) dX9_mayBe_64 (by first | exact zok_b1 | exact zok_b0 | exact zok_b) ⟨Nat.zero_le _, Nat.zero_le _⟩ ?_
    exact zPf (by unfold zRg; omega)
set_option maxRecDepth 20000 in
set_option maxHeartbeats 2000000 in
theorem kX8_fact {a k : Int} (hO : zOb N a 8) (hk : 0 ≤ k ∧ k ≤ 3) : zK g yX8_fact xX8_fact [zr a, zi k] N M (zPp (zi (M a k)) N M) := by
  refine zK_of (ls0 := [zr a, zi k]) (by decide) rfl (by decide) rfl (Nat.le_of_ble_eq_true rfl) ?_
  refine zV_iload_n (pc := 0) (i := 1) dX8_fact_0 rfl rfl ?_
  rcases (show k = 0 ∨ k = 1 ∨ k = 2 ∨ k = 3  by omega) with c_1 | c_1 | c_1 | c_1
  · refine zV_tin (pc := 1) (tgt := 28) 0 dX8_fact_1 (by omega) (by decide) (by decide) rfl (by decide) ?_
    refine zV_aload_n (pc := 28) (i := 0) dX8_fact_28 rfl rfl ?_
    refine zV_get (pc := 29) (j := 0) dX8_fact_29 flX8_9 hO rfl rfl ?_
    refine zV_iret (pc := 32) dX8_fact_32 trivial ⟨Nat.zero_le _, Nat.zero_le _⟩ ?_
    exact zPe (by rw [c_1])
  · refine zV_tin (pc := 1) (tgt := 33) 1 dX8_fact_1 (by omega) (by decide) (by decide) rfl (by decide) ?_
    refine zV_aload_n (pc := 33) (i := 0) dX8_fact_33 rfl rfl ?_
    refine zV_get (pc := 34) (j := 1) dX8_fact_34 flX8_18 hO rfl rfl ?_
    refine zV_iret (pc := 37) dX8_fact_37 trivial ⟨Nat.zero_le _, Nat.zero_le _⟩ ?_
    exact zPe (by rw [c_1])
  · refine zV_tin (pc := 1) (tgt := 38) 2 dX8_fact_1 (by omega) (by decide) (by decide) rfl (by decide) ?_
    refine zV_aload_n (pc := 38) (i := 0) dX8_fact_38 rfl rfl ?_
    refine zV_get (pc := 39) (j := 2) dX8_fact_39 flX8_15 hO rfl rfl ?_
    refine zV_iret (pc := 42) dX8_fact_42 trivial ⟨Nat.zero_le _, Nat.zero_le _⟩ ?_
    exact zPe (by rw [c_1])
  · refine zV_tout (pc := 1) (tgt := 43) dX8_fact_1 (by omega) (by omega) (by decide) ?_
    refine zV_aload_n (pc := 43) (i := 0) dX8_fact_43 rfl rfl ?_
    refine zV_get (pc := 44) (j := 3) dX8_fact_44 flX8_21 hO rfl rfl ?_
    refine zV_iret (pc := 47) dX8_fact_47 trivial ⟨Nat.zero_le _, Nat.zero_le _⟩ ?_
    exact zPe (by rw [c_1])
set_option maxRecDepth 20000 in
set_option maxHeartbeats 2000000 in
theorem kX8_change {a k v : Int} (hO : zOb N a 8) (hk : 1 ≤ k ∧ k ≤ 3) : zK g yX8_change xX8_change [zr a, zi k, zi v] N M (zPn N (fun M1 => M1 = zU M a k v)) := by
  refine zK_of (ls0 := [zr a, zi k, zi v]) (by decide) rfl (by decide) rfl (Nat.le_of_ble_eq_true rfl) ?_
  refine zV_iload_n (pc := 0) (i := 1) dX8_change_0 rfl rfl ?_
  rcases (show k = 1 ∨ k = 2 ∨ k = 3  by omega) with c_1 | c_1 | c_1
  · refine zV_lsw (pc := 1) (tgt := 28) dX8_change_1 (by omega) rfl (by first | (rw [c_1]; done) | (rw [c_1]; rfl)) (by decide) ?_
    refine zV_aload_n (pc := 28) (i := 0) dX8_change_28 rfl rfl ?_
    refine zV_iload_n (pc := 29) (i := 2) dX8_change_29 rfl rfl ?_
    refine zV_put (pc := 30) (j := 1) dX8_change_30 flX8_18 rfl hO rfl trivial ?_
    refine zV_goto (pc := 33) (tgt := 49) dX8_change_33 (by decide) ?_
    refine zV_vret (pc := 49) dX8_change_49 trivial ⟨Nat.zero_le _, Nat.zero_le _⟩ ?_
    exact ⟨rfl, rfl, by rw [c_1]⟩
  · refine zV_lsw (pc := 1) (tgt := 36) dX8_change_1 (by omega) rfl (by first | (rw [c_1]; done) | (rw [c_1]; rfl)) (by decide) ?_
    refine zV_aload_n (pc := 36) (i := 0) dX8_change_36 rfl rfl ?_
    refine zV_iload_n (pc := 37) (i := 2) dX8_change_37 rfl rfl ?_
    refine zV_put (pc := 38) (j := 2) dX8_change_38 flX8_15 rfl hO rfl trivial ?_
    refine zV_goto (pc := 41) (tgt := 49) dX8_change_41 (by decide) ?_
    refine zV_vret (pc := 49) dX8_change_49 trivial ⟨Nat.zero_le _, Nat.zero_le _⟩ ?_
    exact ⟨rfl, rfl, by rw [c_1]⟩
  · refine zV_lsw (pc := 1) (tgt := 44) dX8_change_1 (by omega) rfl (by first | (rw [c_1]; done) | (rw [c_1]; rfl)) (by decide) ?_
    refine zV_aload_n (pc := 44) (i := 0) dX8_change_44 rfl rfl ?_
    refine zV_iload_n (pc := 45) (i := 2) dX8_change_45 rfl rfl ?_
    refine zV_put (pc := 46) (j := 3) dX8_change_46 flX8_21 rfl hO rfl trivial ?_
    refine zV_vret (pc := 49) dX8_change_49 trivial ⟨Nat.zero_le _, Nat.zero_le _⟩ ?_
    exact ⟨rfl, rfl, by rw [c_1]⟩
set_option maxRecDepth 20000 in
set_option maxHeartbeats 2000000 in
theorem kX9_told (hS : zSt M) (hW : zWf M) {i k : Int} (hi : -2147483648 ≤ i ∧ i ≤ 2147483647) (hk : -2147483648 ≤ k ∧ k ≤ 2147483647) : zK g yX9_told xX9_told [zr 0, zi i, zi k] 75 M (zPp (zi (zif ((0 ≤ i ∧ i < M 1 1) ∧ (0 ≤ k ∧ k ≤ 3)) (M (3 + i) k) (-2))) 75 M) := by
  refine zK_of (ls0 := [zr 0, zi i, zi k]) (by decide) rfl (by decide) rfl (Nat.le_of_ble_eq_true rfl) ?_
  have hn := hW.1
  refine zV_aload_n (pc := 0) (i := 0) dX9_told_0 rfl rfl ?_
  refine zV_get (pc := 1) (j := 0) dX9_told_1 flX9_12 (zOb_of rfl) rfl hS.e0_0 ?_
  refine zV_iload_n (pc := 4) (i := 1) dX9_told_4 rfl rfl ?_
  refine zV_ivp (pc := 5) (ci := 5) dX9_told_5 klX9_100 mX5_has ⟨by decide, rfl⟩ rfl ⟨Nat.zero_le _, Nat.zero_le _⟩ (kX5_has hS hW.1 (by omega)) (zOb_of rfl) rfl rfl (Nat.le_of_ble_eq_true rfl) ?_
  refine zV_if_eqb (pc := 8) (tgt := 36) dX9_told_8 (by decide) (fun c_8 => ?_) (fun c_8 => ?_)
  · refine zV_bipush (pc := 36) dX9_told_36 (by decide) ?_
    refine zV_iret (pc := 38) dX9_told_38 trivial ⟨Nat.zero_le _, Nat.zero_le _⟩ ?_
    first
      | exact zPe (zif_t ⟨c_8, c_17⟩).symm
      | exact zPe (zif_f (fun q => c_8 q.1)).symm
      | exact zPe (zif_f (fun q => c_17 q.2)).symm
  · refine zV_iload_n (pc := 11) (i := 2) dX9_told_11 rfl rfl ?_
    refine zV_iconst (pc := 12) dX9_told_12 ?_
    refine zV_iconst (pc := 13) dX9_told_13 ?_
    refine zV_isp (pc := 14) dX9_told_14 klX9_119 mX9_within rfl ⟨Nat.zero_le _, Nat.zero_le _⟩ (kX9_within (by omega) (by omega) (by omega)) rfl rfl (Nat.le_of_ble_eq_true rfl) ?_
    refine zV_if_eqb (pc := 17) (tgt := 36) dX9_told_17 (by decide) (fun c_17 => ?_) (fun c_17 => ?_)
    · refine zV_bipush (pc := 36) dX9_told_36 (by decide) ?_
      refine zV_iret (pc := 38) dX9_told_38 trivial ⟨Nat.zero_le _, Nat.zero_le _⟩ ?_
      first
        | exact zPe (zif_t ⟨c_8, c_17⟩).symm
        | exact zPe (zif_f (fun q => c_8 q.1)).symm
        | exact zPe (zif_f (fun q => c_17 q.2)).symm
    · refine zV_aload_n (pc := 20) (i := 0) dX9_told_20 rfl rfl ?_
      refine zV_get (pc := 21) (j := 0) dX9_told_21 flX9_12 (zOb_of rfl) rfl hS.e0_0 ?_
      refine zV_get (pc := 24) (j := 0) dX9_told_24 flX9_108 (zOb_of rfl) rfl hS.e1_0 ?_
      refine zV_iload_n (pc := 27) (i := 1) dX9_told_27 rfl rfl ?_
      refine zV_aald (pc := 28) dX9_told_28 (zAr_of rfl : zAr 75 2 2 6) ⟨rfl, rfl⟩ (by omega) (hS.th (by omega)) ?_
      refine zV_iload_n (pc := 29) (i := 2) dX9_told_29 rfl rfl ?_
      refine zV_ivp (pc := 30) (ci := 8) dX9_told_30 klX9_112 mX8_fact ⟨by decide, rfl⟩ rfl ⟨Nat.zero_le _, Nat.zero_le _⟩ (kX8_fact (zOb_th (by omega)) (by omega)) (zOb_th (by omega)) rfl rfl (Nat.le_of_ble_eq_true rfl) ?_
      refine zV_goto (pc := 33) (tgt := 38) dX9_told_33 (by decide) ?_
      refine zV_iret (pc := 38) dX9_told_38 trivial ⟨Nat.zero_le _, Nat.zero_le _⟩ ?_
      first
        | exact zPe (zif_t ⟨c_8, c_17⟩).symm
        | exact zPe (zif_f (fun q => c_8 q.1)).symm
        | exact zPe (zif_f (fun q => c_17 q.2)).symm
set_option maxRecDepth 20000 in
set_option maxHeartbeats 2000000 in
theorem kX9_setHolidays (hS : zSt M) {v : Int} (hv : -2147483648 ≤ v ∧ v ≤ 2147483647) : zK g yX9_setHolidays xX9_setHolidays [zr 0, zi v] 75 M (fun w N' M' => N' = 75 ∧ (((0 ≤ v ∧ v ≤ 127) ∧ w = some (zi (M 1 2)) ∧ M' = zU M 1 2 v) ∨ (¬ ((0 ≤ v ∧ v ≤ 127)) ∧ w = some (zi (-2)) ∧ M' = M))) := by
  refine zK_of (ls0 := [zr 0, zi v, (3, 0)]) (by decide) rfl (by decide) rfl (Nat.le_of_ble_eq_true rfl) ?_
  refine zV_iload_n (pc := 0) (i := 1) dX9_setHolidays_0 rfl rfl ?_
  refine zV_iconst (pc := 1) dX9_setHolidays_1 ?_
  refine zV_bipush (pc := 2) dX9_setHolidays_2 (by decide) ?_
  refine zV_isp (pc := 4) dX9_setHolidays_4 klX9_119 mX9_within rfl ⟨Nat.zero_le _, Nat.zero_le _⟩ (kX9_within (by omega) (by omega) (by omega)) rfl rfl (Nat.le_of_ble_eq_true rfl) ?_
  refine zV_if_neb (pc := 7) (tgt := 13) dX9_setHolidays_7 (by decide) (fun c_7 => ?_) (fun c_7 => ?_)
  · refine zV_aload_n (pc := 13) (i := 0) dX9_setHolidays_13 rfl rfl ?_
    refine zV_get (pc := 14) (j := 0) dX9_setHolidays_14 flX9_12 (zOb_of rfl) rfl hS.e0_0 ?_
    refine zV_get (pc := 17) (j := 2) dX9_setHolidays_17 flX9_123 (zOb_of rfl) rfl rfl ?_
    refine zV_istore_n (pc := 20) (i := 2) dX9_setHolidays_20 rfl rfl ?_
    try dsimp only [List.set_cons_succ, List.set_cons_zero]
    refine zV_aload_n (pc := 21) (i := 0) dX9_setHolidays_21 rfl rfl ?_
    refine zV_get (pc := 22) (j := 0) dX9_setHolidays_22 flX9_12 (zOb_of rfl) rfl hS.e0_0 ?_
    refine zV_iload_n (pc := 25) (i := 1) dX9_setHolidays_25 rfl rfl ?_
    refine zV_put (pc := 26) (j := 2) dX9_setHolidays_26 flX9_123 rfl (zOb_of rfl) rfl trivial ?_
    refine zV_iload_n (pc := 29) (i := 2) dX9_setHolidays_29 rfl rfl ?_
    refine zV_iret (pc := 30) dX9_setHolidays_30 trivial ⟨Nat.zero_le _, Nat.zero_le _⟩ ?_
    first
      | exact ⟨rfl, Or.inl ⟨c_7, rfl, rfl⟩⟩
      | exact ⟨rfl, Or.inr ⟨c_7, rfl, rfl⟩⟩
  · refine zV_bipush (pc := 10) dX9_setHolidays_10 (by decide) ?_
    refine zV_iret (pc := 12) dX9_setHolidays_12 trivial ⟨Nat.zero_le _, Nat.zero_le _⟩ ?_
    first
      | exact ⟨rfl, Or.inl ⟨c_7, rfl, rfl⟩⟩
      | exact ⟨rfl, Or.inr ⟨c_7, rfl, rfl⟩⟩
set_option maxRecDepth 20000 in
set_option maxHeartbeats 2000000 in
theorem kX9_set (hS : zSt M) (hW : zWf M) {k i v : Int} (hk : -2147483648 ≤ k ∧ k ≤ 2147483647) (hi : -2147483648 ≤ i ∧ i ≤ 2147483647) (hv : -2147483648 ≤ v ∧ v ≤ 2147483647) : zK g yX9_set xX9_set [zr 0, zi k, zi i, zi v] 75 M (fun w N' M' => N' = 75 ∧ ((zstOK (M 1 1) k i v ∧ w = some (zi (if k = 0 then M 1 2 else M (3 + i) k)) ∧ M' = if k = 0 then zU M 1 2 v else zU M (3 + i) k v) ∨ (¬ (zstOK (M 1 1) k i v) ∧ w = some (zi (-2)) ∧ M' = M))) := by
  refine zK_of (ls0 := [zr 0, zi k, zi i, zi v, (3, 0), (3, 0)]) (by decide) rfl (by decide) rfl (Nat.le_of_ble_eq_true rfl) ?_
  have hn := hW.1
  refine zV_iload_n (pc := 0) (i := 1) dX9_set_0 rfl rfl ?_
  refine zV_if_ne (pc := 1) (tgt := 10) dX9_set_1 (by decide) (by omega) (fun c_1 => ?_) (fun c_1 => ?_)
  · refine zV_iload_n (pc := 10) (i := 1) dX9_set_10 rfl rfl ?_
    refine zV_iconst (pc := 11) dX9_set_11 ?_
    refine zV_icmp_gt (pc := 12) (tgt := 34) dX9_set_12 (by decide) (by omega) (fun c_12 => ?_) (fun c_12 => ?_)
    · refine zV_bipush (pc := 34) dX9_set_34 (by decide) ?_
      refine zV_iret (pc := 36) dX9_set_36 trivial ⟨Nat.zero_le _, Nat.zero_le _⟩ ?_
      first
        | (refine ⟨rfl, Or.inl ⟨Or.inr ⟨by unfold zRg at c_31; omega, by omega, c_23, c_31⟩, ?_, ?_⟩⟩; rw [if_neg (by omega)]; rw [if_neg (by omega)]; exact q)
        | exact ⟨rfl, Or.inr ⟨fun e => e.elim (fun e => by omega) (fun e => by omega), rfl, rfl⟩⟩
        | exact ⟨rfl, Or.inr ⟨fun e => e.elim (fun e => by omega) (fun e => c_23 e.2.2.1), rfl, rfl⟩⟩
        | exact ⟨rfl, Or.inr ⟨fun e => e.elim (fun e => by omega) (fun e => c_31 e.2.2.2), rfl, rfl⟩⟩
    · refine zV_aload_n (pc := 15) (i := 0) dX9_set_15 rfl rfl ?_
      refine zV_get (pc := 16) (j := 0) dX9_set_16 flX9_12 (zOb_of rfl) rfl hS.e0_0 ?_
      refine zV_iload_n (pc := 19) (i := 2) dX9_set_19 rfl rfl ?_
      refine zV_ivp (pc := 20) (ci := 5) dX9_set_20 klX9_100 mX5_has ⟨by decide, rfl⟩ rfl ⟨Nat.zero_le _, Nat.zero_le _⟩ (kX5_has hS hW.1 (by omega)) (zOb_of rfl) rfl rfl (Nat.le_of_ble_eq_true rfl) ?_
      refine zV_if_eqb (pc := 23) (tgt := 34) dX9_set_23 (by decide) (fun c_23 => ?_) (fun c_23 => ?_)
      · refine zV_bipush (pc := 34) dX9_set_34 (by decide) ?_
        refine zV_iret (pc := 36) dX9_set_36 trivial ⟨Nat.zero_le _, Nat.zero_le _⟩ ?_
        first
          | (refine ⟨rfl, Or.inl ⟨Or.inr ⟨by unfold zRg at c_31; omega, by omega, c_23, c_31⟩, ?_, ?_⟩⟩; rw [if_neg (by omega)]; rw [if_neg (by omega)]; exact q)
          | exact ⟨rfl, Or.inr ⟨fun e => e.elim (fun e => by omega) (fun e => by omega), rfl, rfl⟩⟩
          | exact ⟨rfl, Or.inr ⟨fun e => e.elim (fun e => by omega) (fun e => c_23 e.2.2.1), rfl, rfl⟩⟩
          | exact ⟨rfl, Or.inr ⟨fun e => e.elim (fun e => by omega) (fun e => c_31 e.2.2.2), rfl, rfl⟩⟩
      · refine zV_iload_n (pc := 26) (i := 1) dX9_set_26 rfl rfl ?_
        refine zV_iload_n (pc := 27) (i := 3) dX9_set_27 rfl rfl ?_
        refine zV_isp (pc := 28) dX9_set_28 klX9_104 mX9_mayBe rfl ⟨Nat.zero_le _, Nat.zero_le _⟩ (kX9_mayBe (by omega) (by omega)) rfl rfl (Nat.le_of_ble_eq_true rfl) ?_
        refine zV_if_neb (pc := 31) (tgt := 37) dX9_set_31 (by decide) (fun c_31 => ?_) (fun c_31 => ?_)
        · refine zV_aload_n (pc := 37) (i := 0) dX9_set_37 rfl rfl ?_
          refine zV_get (pc := 38) (j := 0) dX9_set_38 flX9_12 (zOb_of rfl) rfl hS.e0_0 ?_
          refine zV_get (pc := 41) (j := 0) dX9_set_41 flX9_108 (zOb_of rfl) rfl hS.e1_0 ?_
          refine zV_iload_n (pc := 44) (i := 2) dX9_set_44 rfl rfl ?_
          refine zV_aald (pc := 45) dX9_set_45 (zAr_of rfl : zAr 75 2 2 6) ⟨rfl, rfl⟩ (by omega) (hS.th (by omega)) ?_
          refine zV_astore (pc := 46) dX9_set_46 rfl ?_
          try dsimp only [List.set_cons_succ, List.set_cons_zero]
          refine zV_aload (pc := 48) dX9_set_48 rfl ?_
          refine zV_iload_n (pc := 50) (i := 1) dX9_set_50 rfl rfl ?_
          refine zV_ivp (pc := 51) (ci := 8) dX9_set_51 klX9_112 mX8_fact ⟨by decide, rfl⟩ rfl ⟨Nat.zero_le _, Nat.zero_le _⟩ (kX8_fact (zOb_th (by omega)) (by unfold zRg at c_31; omega)) (zOb_th (by omega)) rfl rfl (Nat.le_of_ble_eq_true rfl) ?_
          refine zV_istore (pc := 54) dX9_set_54 rfl ?_
          try dsimp only [List.set_cons_succ, List.set_cons_zero]
          refine zV_aload (pc := 56) dX9_set_56 rfl ?_
          refine zV_iload_n (pc := 58) (i := 1) dX9_set_58 rfl rfl ?_
          refine zV_iload_n (pc := 59) (i := 3) dX9_set_59 rfl rfl ?_
          refine zV_ivn (pc := 60) (ci := 8) dX9_set_60 klX9_115 mX8_change ⟨by decide, rfl⟩ rfl ⟨Nat.zero_le _, Nat.zero_le _⟩ (kX8_change (zOb_th (by omega)) (by unfold zRg at c_31; omega)) (zOb_th (by omega)) rfl rfl (Nat.le_of_ble_eq_true rfl) (fun M1 q => ?_)
          refine zV_iload (pc := 63) dX9_set_63 rfl ?_
          refine zV_iret (pc := 65) dX9_set_65 trivial ⟨Nat.zero_le _, Nat.zero_le _⟩ ?_
          first
            | (refine ⟨rfl, Or.inl ⟨Or.inr ⟨by unfold zRg at c_31; omega, by omega, c_23, c_31⟩, ?_, ?_⟩⟩; rw [if_neg (by omega)]; rw [if_neg (by omega)]; exact q)
            | exact ⟨rfl, Or.inr ⟨fun e => e.elim (fun e => by omega) (fun e => by omega), rfl, rfl⟩⟩
            | exact ⟨rfl, Or.inr ⟨fun e => e.elim (fun e => by omega) (fun e => c_23 e.2.2.1), rfl, rfl⟩⟩
            | exact ⟨rfl, Or.inr ⟨fun e => e.elim (fun e => by omega) (fun e => c_31 e.2.2.2), rfl, rfl⟩⟩
        · refine zV_bipush (pc := 34) dX9_set_34 (by decide) ?_
          refine zV_iret (pc := 36) dX9_set_36 trivial ⟨Nat.zero_le _, Nat.zero_le _⟩ ?_
          first
            | (refine ⟨rfl, Or.inl ⟨Or.inr ⟨by unfold zRg at c_31; omega, by omega, c_23, c_31⟩, ?_, ?_⟩⟩; rw [if_neg (by omega)]; rw [if_neg (by omega)]; exact q)
            | exact ⟨rfl, Or.inr ⟨fun e => e.elim (fun e => by omega) (fun e => by omega), rfl, rfl⟩⟩
            | exact ⟨rfl, Or.inr ⟨fun e => e.elim (fun e => by omega) (fun e => c_23 e.2.2.1), rfl, rfl⟩⟩
            | exact ⟨rfl, Or.inr ⟨fun e => e.elim (fun e => by omega) (fun e => c_31 e.2.2.2), rfl, rfl⟩⟩
  · refine zV_aload_n (pc := 4) (i := 0) dX9_set_4 rfl rfl ?_
    refine zV_iload_n (pc := 5) (i := 3) dX9_set_5 rfl rfl ?_
    refine zV_ivs (pc := 6) (ci := 9) dX9_set_6 klX9_97 mX9_setHolidays ⟨by decide, rfl⟩ rfl ⟨Nat.zero_le _, Nat.zero_le _⟩ (kX9_setHolidays hS hv) (zOb_of rfl) rfl rfl (Nat.le_of_ble_eq_true rfl) ?_
    rintro w N9 M9 ⟨rfl, q | q⟩
    · obtain ⟨q0, rfl, rfl⟩ := q
      refine zV_iret (pc := 9) dX9_set_9 trivial ⟨Nat.zero_le _, Nat.zero_le _⟩ ?_
      exact ⟨rfl, Or.inl ⟨Or.inl ⟨by omega, q0⟩, by rw [if_pos (by omega)], by rw [if_pos (by omega)]⟩⟩
    · obtain ⟨q0, rfl, rfl⟩ := q
      refine zV_iret (pc := 9) dX9_set_9 trivial ⟨Nat.zero_le _, Nat.zero_le _⟩ ?_
      exact ⟨rfl, Or.inr ⟨by unfold zstOK; omega, rfl, rfl⟩⟩
set_option maxRecDepth 20000 in
set_option maxHeartbeats 2000000 in
theorem kX5_add (hS : zSt M) (hn : 0 ≤ M 1 1 ∧ M 1 1 ≤ 6) {k n p b : Int} : zK g yX5_add xX5_add [zr 1, zi k, zi n, zi p, zi b] 75 M (fun w N' M' => N' = 75 ∧ ((M 1 1 = 6 ∧ w = some (zi (-4)) ∧ M' = M) ∨ (M 1 1 < 6 ∧ w = some (zi (M 1 1)) ∧ (fun M1 => M1 (3 + M 1 1) 0 = k ∧ M1 (3 + M 1 1) 1 = n ∧ M1 (3 + M 1 1) 2 = p ∧ M1 (3 + M 1 1) 3 = b ∧ M1 1 1 = M 1 1 + 1 ∧ zFr (fun a j => a = 3 + M 1 1 ∨ (a = 1 ∧ j = 1)) M M1) M'))) := by
  refine zK_of (ls0 := [zr 1, zi k, zi n, zi p, zi b, (3, 0)]) (by decide) rfl (by decide) rfl (Nat.le_of_ble_eq_true rfl) ?_
  refine zV_aload_n (pc := 0) (i := 0) dX5_add_0 rfl rfl ?_
  refine zV_get (pc := 1) (j := 1) dX5_add_1 flX5_18 (zOb_of rfl) rfl rfl ?_
  refine zV_aload_n (pc := 4) (i := 0) dX5_add_4 rfl rfl ?_
  refine zV_get (pc := 5) (j := 0) dX5_add_5 flX5_11 (zOb_of rfl) rfl hS.e1_0 ?_
  refine zV_alen (pc := 8) dX5_add_8 (zAr_of rfl : zAr 75 2 2 6) ?_
  refine zV_icmp_lt (pc := 9) (tgt := 15) dX5_add_9 (by decide) (by omega) (fun c_9 => ?_) (fun c_9 => ?_)
  · refine zV_aload_n (pc := 15) (i := 0) dX5_add_15 rfl rfl ?_
    refine zV_get (pc := 16) (j := 0) dX5_add_16 flX5_11 (zOb_of rfl) rfl hS.e1_0 ?_
    refine zV_aload_n (pc := 19) (i := 0) dX5_add_19 rfl rfl ?_
    refine zV_get (pc := 20) (j := 1) dX5_add_20 flX5_18 (zOb_of rfl) rfl rfl ?_
    refine zV_aald (pc := 23) dX5_add_23 (zAr_of rfl : zAr 75 2 2 6) ⟨rfl, rfl⟩ (by omega) (hS.th (by omega)) ?_
    refine zV_astore (pc := 24) dX5_add_24 rfl ?_
    try dsimp only [List.set_cons_succ, List.set_cons_zero]
    refine zV_aload (pc := 26) dX5_add_26 rfl ?_
    refine zV_iload_n (pc := 28) (i := 1) dX5_add_28 rfl rfl ?_
    refine zV_put (pc := 29) (j := 0) dX5_add_29 flX5_22 rfl (zOb_th (by omega)) rfl trivial ?_
    refine zV_aload (pc := 32) dX5_add_32 rfl ?_
    refine zV_iload_n (pc := 34) (i := 2) dX5_add_34 rfl rfl ?_
    refine zV_put (pc := 35) (j := 1) dX5_add_35 flX5_25 rfl (zOb_th (by omega)) rfl trivial ?_
    refine zV_aload (pc := 38) dX5_add_38 rfl ?_
    refine zV_iload_n (pc := 40) (i := 3) dX5_add_40 rfl rfl ?_
    refine zV_put (pc := 41) (j := 2) dX5_add_41 flX5_28 rfl (zOb_th (by omega)) rfl trivial ?_
    refine zV_aload (pc := 44) dX5_add_44 rfl ?_
    refine zV_iload (pc := 46) dX5_add_46 rfl ?_
    refine zV_put (pc := 48) (j := 3) dX5_add_48 flX5_31 rfl (zOb_th (by omega)) rfl trivial ?_
    refine zV_aload_n (pc := 51) (i := 0) dX5_add_51 rfl rfl ?_
    refine zV_dup (pc := 52) dX5_add_52 (by simp) ?_
    refine zV_get (pc := 53) (j := 1) dX5_add_53 flX5_18 (zOb_of rfl) rfl rfl ?_
    refine zV_iconst (pc := 56) dX5_add_56 ?_
    refine zV_iadd (pc := 57) dX5_add_57 ?_
    refine zV_put (pc := 58) (j := 1) dX5_add_58 flX5_18 rfl (zOb_of rfl) rfl trivial ?_
    refine zV_aload_n (pc := 61) (i := 0) dX5_add_61 rfl rfl ?_
    refine zV_get (pc := 62) (j := 1) dX5_add_62 flX5_18 (zOb_of rfl) rfl rfl ?_
    refine zV_iconst (pc := 65) dX5_add_65 ?_
    refine zV_isub (pc := 66) dX5_add_66 ?_
    refine zV_iret (pc := 67) dX5_add_67 trivial ⟨Nat.zero_le _, Nat.zero_le _⟩ ?_
    first
      | (exfalso; omega)
      | exact ⟨rfl, Or.inl ⟨by omega, rfl, rfl⟩⟩
      | (refine ⟨rfl, Or.inr ⟨by omega, ?_, ?_, ?_, ?_, ?_, ?_, ?_⟩⟩
         · simp [zU, show (1 : Int) ≠ 3 + M 1 1 by omega] <;> omega
         · simp [zU, show (3 : Int) + M 1 1 ≠ 1 by omega]
         · simp [zU, show (3 : Int) + M 1 1 ≠ 1 by omega]
         · simp [zU, show (3 : Int) + M 1 1 ≠ 1 by omega]
         · simp [zU, show (3 : Int) + M 1 1 ≠ 1 by omega]
         · simp [zU, show (1 : Int) ≠ 3 + M 1 1 by omega]
         · exact zFr.up (zFr.up (zFr.up (zFr.up (zFr.up zFr.rf (Or.inl rfl)) (Or.inl rfl)) (Or.inl rfl)) (Or.inl rfl)) (Or.inr ⟨rfl, rfl⟩))
  · refine zV_bipush (pc := 12) dX5_add_12 (by decide) ?_
    refine zV_iret (pc := 14) dX5_add_14 trivial ⟨Nat.zero_le _, Nat.zero_le _⟩ ?_
    first
      | (exfalso; omega)
      | exact ⟨rfl, Or.inl ⟨by omega, rfl, rfl⟩⟩
      | (refine ⟨rfl, Or.inr ⟨by omega, ?_, ?_, ?_, ?_, ?_, ?_, ?_⟩⟩
         · simp [zU, show (1 : Int) ≠ 3 + M 1 1 by omega] <;> omega
         · simp [zU, show (3 : Int) + M 1 1 ≠ 1 by omega]
         · simp [zU, show (3 : Int) + M 1 1 ≠ 1 by omega]
         · simp [zU, show (3 : Int) + M 1 1 ≠ 1 by omega]
         · simp [zU, show (3 : Int) + M 1 1 ≠ 1 by omega]
         · simp [zU, show (1 : Int) ≠ 3 + M 1 1 by omega]
         · exact zFr.up (zFr.up (zFr.up (zFr.up (zFr.up zFr.rf (Or.inl rfl)) (Or.inl rfl)) (Or.inl rfl)) (Or.inl rfl)) (Or.inr ⟨rfl, rfl⟩))
set_option maxRecDepth 20000 in
set_option maxHeartbeats 2000000 in
theorem kX9_thing (hS : zSt M) (hW : zWf M) {k n x : Int} (hk : -2147483648 ≤ k ∧ k ≤ 2147483647) (hn : -2147483648 ≤ n ∧ n ≤ 2147483647) (hx : -2147483648 ≤ x ∧ x ≤ 2147483647) : zK g yX9_thing xX9_thing [zr 0, zi k, zi n, zi x] 75 M (fun w N' M' => N' = 75 ∧ ((¬ zthOK k n x ∧ w = some (zi (-2)) ∧ M' = M) ∨ (zthOK k n x ∧ M 1 1 = 6 ∧ w = some (zi (-4)) ∧ M' = M) ∨ (zthOK k n x ∧ M 1 1 < 6 ∧ w = some (zi (M 1 1)) ∧ (fun M1 => M1 (3 + M 1 1) 0 = k ∧ M1 (3 + M 1 1) 1 = n ∧ M1 (3 + M 1 1) 2 = x.tdiv 100 ∧ M1 (3 + M 1 1) 3 = x.tmod 100 ∧ M1 1 1 = M 1 1 + 1 ∧ zFr (fun a j => a = 3 + M 1 1 ∨ (a = 1 ∧ j = 1)) M M1) M'))) := by
  refine zK_of (ls0 := [zr 0, zi k, zi n, zi x, (3, 0), (3, 0)]) (by decide) rfl (by decide) rfl (Nat.le_of_ble_eq_true rfl) ?_
  have hn := hW.1
  have hdm : x.tmod 100 = x - 100 * x.tdiv 100 := Int.tmod_def x 100
  have hm1 := Int.tmod_lt_of_pos x (b := 100) (by decide)
  have hm2 := Int.tmod_lt_of_pos (-x) (b := 100) (by decide)
  rw [Int.neg_tmod] at hm2
  refine zV_iload_n (pc := 0) (i := 3) dX9_thing_0 rfl rfl ?_
  refine zV_bipush (pc := 1) dX9_thing_1 (by decide) ?_
  refine zV_idiv (pc := 3) dX9_thing_3 (by omega) (by omega) ?_
  refine zV_istore (pc := 4) dX9_thing_4 rfl ?_
  try dsimp only [List.set_cons_succ, List.set_cons_zero]
  refine zV_iload_n (pc := 6) (i := 3) dX9_thing_6 rfl rfl ?_
  refine zV_bipush (pc := 7) dX9_thing_7 (by decide) ?_
  refine zV_irem (pc := 9) dX9_thing_9 (by omega) (by omega) ?_
  refine zV_istore (pc := 10) dX9_thing_10 rfl ?_
  try dsimp only [List.set_cons_succ, List.set_cons_zero]
  refine zV_iconst (pc := 12) dX9_thing_12 ?_
  refine zV_iload_n (pc := 13) (i := 1) dX9_thing_13 rfl rfl ?_
  refine zV_isp (pc := 14) dX9_thing_14 klX9_104 mX9_mayBe rfl ⟨Nat.zero_le _, Nat.zero_le _⟩ (kX9_mayBe (by omega) (by omega)) rfl rfl (Nat.le_of_ble_eq_true rfl) ?_
  refine zV_if_eqb (pc := 17) (tgt := 46) dX9_thing_17 (by decide) (fun c_17 => ?_) (fun c_17 => ?_)
  · refine zV_bipush (pc := 46) dX9_thing_46 (by decide) ?_
    refine zV_iret (pc := 48) dX9_thing_48 trivial ⟨Nat.zero_le _, Nat.zero_le _⟩ ?_
    refine ⟨rfl, Or.inl ⟨fun q => ?_, rfl, rfl⟩⟩
    unfold zthOK at q
    first
      | (exact c_17 (by unfold zRg; omega))
      | (exact c_25 (by unfold zRg; omega))
      | (exact c_34 (by unfold zRg; omega))
      | (exact c_43 (by unfold zRg; omega))
  · refine zV_iconst (pc := 20) dX9_thing_20 ?_
    refine zV_iload_n (pc := 21) (i := 2) dX9_thing_21 rfl rfl ?_
    refine zV_isp (pc := 22) dX9_thing_22 klX9_104 mX9_mayBe rfl ⟨Nat.zero_le _, Nat.zero_le _⟩ (kX9_mayBe (by omega) (by omega)) rfl rfl (Nat.le_of_ble_eq_true rfl) ?_
    refine zV_if_eqb (pc := 25) (tgt := 46) dX9_thing_25 (by decide) (fun c_25 => ?_) (fun c_25 => ?_)
    · refine zV_bipush (pc := 46) dX9_thing_46 (by decide) ?_
      refine zV_iret (pc := 48) dX9_thing_48 trivial ⟨Nat.zero_le _, Nat.zero_le _⟩ ?_
      refine ⟨rfl, Or.inl ⟨fun q => ?_, rfl, rfl⟩⟩
      unfold zthOK at q
      first
        | (exact c_17 (by unfold zRg; omega))
        | (exact c_25 (by unfold zRg; omega))
        | (exact c_34 (by unfold zRg; omega))
        | (exact c_43 (by unfold zRg; omega))
    · refine zV_iconst (pc := 28) dX9_thing_28 ?_
      refine zV_iload (pc := 29) dX9_thing_29 rfl ?_
      refine zV_isp (pc := 31) dX9_thing_31 klX9_104 mX9_mayBe rfl ⟨Nat.zero_le _, Nat.zero_le _⟩ (kX9_mayBe (by omega) (by omega)) rfl rfl (Nat.le_of_ble_eq_true rfl) ?_
      refine zV_if_eqb (pc := 34) (tgt := 46) dX9_thing_34 (by decide) (fun c_34 => ?_) (fun c_34 => ?_)
      · refine zV_bipush (pc := 46) dX9_thing_46 (by decide) ?_
        refine zV_iret (pc := 48) dX9_thing_48 trivial ⟨Nat.zero_le _, Nat.zero_le _⟩ ?_
        refine ⟨rfl, Or.inl ⟨fun q => ?_, rfl, rfl⟩⟩
        unfold zthOK at q
        first
          | (exact c_17 (by unfold zRg; omega))
          | (exact c_25 (by unfold zRg; omega))
          | (exact c_34 (by unfold zRg; omega))
          | (exact c_43 (by unfold zRg; omega))
      · refine zV_iconst (pc := 37) dX9_thing_37 ?_
        refine zV_iload (pc := 38) dX9_thing_38 rfl ?_
        refine zV_isp (pc := 40) dX9_thing_40 klX9_104 mX9_mayBe rfl ⟨Nat.zero_le _, Nat.zero_le _⟩ (kX9_mayBe (by omega) (by omega)) rfl rfl (Nat.le_of_ble_eq_true rfl) ?_
        refine zV_if_neb (pc := 43) (tgt := 49) dX9_thing_43 (by decide) (fun c_43 => ?_) (fun c_43 => ?_)
        · refine zV_aload_n (pc := 49) (i := 0) dX9_thing_49 rfl rfl ?_
          refine zV_get (pc := 50) (j := 0) dX9_thing_50 flX9_12 (zOb_of rfl) rfl hS.e0_0 ?_
          refine zV_iload_n (pc := 53) (i := 1) dX9_thing_53 rfl rfl ?_
          refine zV_iload_n (pc := 54) (i := 2) dX9_thing_54 rfl rfl ?_
          refine zV_iload (pc := 55) dX9_thing_55 rfl ?_
          refine zV_iload (pc := 57) dX9_thing_57 rfl ?_
          refine zV_ivs (pc := 59) (ci := 5) dX9_thing_59 klX9_126 mX5_add ⟨by decide, rfl⟩ rfl ⟨Nat.zero_le _, Nat.zero_le _⟩ (kX5_add hS hW.1) (zOb_of rfl) rfl rfl (Nat.le_of_ble_eq_true rfl) ?_
          have hOK : zthOK k n x := by unfold zRg at c_17 c_25 c_34 c_43; unfold zthOK; omega
          rintro w N9 M9 ⟨rfl, ⟨q0, rfl, rfl⟩ | ⟨q0, rfl, q1⟩⟩
          · refine zV_iret (pc := 62) dX9_thing_62 trivial ⟨Nat.zero_le _, Nat.zero_le _⟩ ?_
            exact ⟨rfl, Or.inr (Or.inl ⟨hOK, q0, rfl, rfl⟩)⟩
          · refine zV_iret (pc := 62) dX9_thing_62 trivial ⟨Nat.zero_le _, Nat.zero_le _⟩ ?_
            exact ⟨rfl, Or.inr (Or.inr ⟨hOK, q0, rfl, q1⟩)⟩
        · refine zV_bipush (pc := 46) dX9_thing_46 (by decide) ?_
          refine zV_iret (pc := 48) dX9_thing_48 trivial ⟨Nat.zero_le _, Nat.zero_le _⟩ ?_
          refine ⟨rfl, Or.inl ⟨fun q => ?_, rfl, rfl⟩⟩
          unfold zthOK at q
          first
            | (exact c_17 (by unfold zRg; omega))
            | (exact c_25 (by unfold zRg; omega))
            | (exact c_34 (by unfold zRg; omega))
            | (exact c_43 (by unfold zRg; omega))
set_option maxRecDepth 20000 in
set_option maxHeartbeats 2000000 in
theorem kX9_force (hS : zSt M) (hc : 1 ≤ M 0 4 ∧ M 0 4 ≤ 6) {t : Int} (ht : -2147483648 ≤ t ∧ t ≤ 2147483647) : zK g yX9_force xX9_force [zr 0, zi t] 75 M (fun w N' M' => N' = 75 ∧ (((0 ≤ t ∧ t ≤ M 0 4 - 1) ∧ w = some (zi (M 1 3)) ∧ M' = zU M 1 3 t) ∨ (¬ ((0 ≤ t ∧ t ≤ M 0 4 - 1)) ∧ w = some (zi (-2)) ∧ M' = M))) := by
  refine zK_of (ls0 := [zr 0, zi t, (3, 0)]) (by decide) rfl (by decide) rfl (Nat.le_of_ble_eq_true rfl) ?_
  refine zV_iload_n (pc := 0) (i := 1) dX9_force_0 rfl rfl ?_
  refine zV_iconst (pc := 1) dX9_force_1 ?_
  refine zV_aload_n (pc := 2) (i := 0) dX9_force_2 rfl rfl ?_
  refine zV_get (pc := 3) (j := 4) dX9_force_3 flX9_84 (zOb_of rfl) rfl rfl ?_
  refine zV_iconst (pc := 6) dX9_force_6 ?_
  refine zV_isub (pc := 7) dX9_force_7 ?_
  refine zV_isp (pc := 8) dX9_force_8 klX9_119 mX9_within rfl ⟨Nat.zero_le _, Nat.zero_le _⟩ (kX9_within (by omega) (by omega) (by omega)) rfl rfl (Nat.le_of_ble_eq_true rfl) ?_
  refine zV_if_neb (pc := 11) (tgt := 17) dX9_force_11 (by decide) (fun c_11 => ?_) (fun c_11 => ?_)
  · refine zV_aload_n (pc := 17) (i := 0) dX9_force_17 rfl rfl ?_
    refine zV_get (pc := 18) (j := 0) dX9_force_18 flX9_12 (zOb_of rfl) rfl hS.e0_0 ?_
    refine zV_get (pc := 21) (j := 3) dX9_force_21 flX9_129 (zOb_of rfl) rfl rfl ?_
    refine zV_istore_n (pc := 24) (i := 2) dX9_force_24 rfl rfl ?_
    try dsimp only [List.set_cons_succ, List.set_cons_zero]
    refine zV_aload_n (pc := 25) (i := 0) dX9_force_25 rfl rfl ?_
    refine zV_get (pc := 26) (j := 0) dX9_force_26 flX9_12 (zOb_of rfl) rfl hS.e0_0 ?_
    refine zV_iload_n (pc := 29) (i := 1) dX9_force_29 rfl rfl ?_
    refine zV_put (pc := 30) (j := 3) dX9_force_30 flX9_129 rfl (zOb_of rfl) rfl trivial ?_
    refine zV_iload_n (pc := 33) (i := 2) dX9_force_33 rfl rfl ?_
    refine zV_iret (pc := 34) dX9_force_34 trivial ⟨Nat.zero_le _, Nat.zero_le _⟩ ?_
    first
      | exact ⟨rfl, Or.inl ⟨c_11, rfl, rfl⟩⟩
      | exact ⟨rfl, Or.inr ⟨c_11, rfl, rfl⟩⟩
  · refine zV_bipush (pc := 14) dX9_force_14 (by decide) ?_
    refine zV_iret (pc := 16) dX9_force_16 trivial ⟨Nat.zero_le _, Nat.zero_le _⟩ ?_
    first
      | exact ⟨rfl, Or.inl ⟨c_11, rfl, rfl⟩⟩
      | exact ⟨rfl, Or.inr ⟨c_11, rfl, rfl⟩⟩
set_option maxRecDepth 20000 in
set_option maxHeartbeats 2000000 in
theorem kX9_count (hS : zSt M) {k : Int} (hk : -2147483648 ≤ k ∧ k ≤ 2147483647) : zK g yX9_count xX9_count [zr 0, zi k] 75 M (zPp (zi (if k = 0 then M 1 1 else if k = 1 then M 1 2 else if k = 2 then M 0 4 else if k = 3 then M 18 1 else if k = 4 then M 1 3 else -2)) 75 M) := by
  refine zK_of (ls0 := [zr 0, zi k]) (by decide) rfl (by decide) rfl (Nat.le_of_ble_eq_true rfl) ?_
  refine zV_iload_n (pc := 0) (i := 1) dX9_count_0 rfl rfl ?_
  rcases (show k = 0 ∨ k = 1 ∨ k = 2 ∨ k = 3 ∨ k = 4 ∨ (k < 0 ∨ 4 < k)  by omega) with c_1 | c_1 | c_1 | c_1 | c_1 | c_1
  · refine zV_tin (pc := 1) (tgt := 36) 0 dX9_count_1 (by omega) (by decide) (by decide) rfl (by decide) ?_
    refine zV_aload_n (pc := 36) (i := 0) dX9_count_36 rfl rfl ?_
    refine zV_get (pc := 37) (j := 0) dX9_count_37 flX9_12 (zOb_of rfl) rfl hS.e0_0 ?_
    refine zV_get (pc := 40) (j := 1) dX9_count_40 flX9_281 (zOb_of rfl) rfl rfl ?_
    refine zV_iret (pc := 43) dX9_count_43 trivial ⟨Nat.zero_le _, Nat.zero_le _⟩ ?_
    first
      | exact zPe (by rw [c_1]; rfl)
      | exact zPe (by rw [if_neg (by omega), if_neg (by omega), if_neg (by omega), if_neg (by omega), if_neg (by omega)])
  · refine zV_tin (pc := 1) (tgt := 44) 1 dX9_count_1 (by omega) (by decide) (by decide) rfl (by decide) ?_
    refine zV_aload_n (pc := 44) (i := 0) dX9_count_44 rfl rfl ?_
    refine zV_get (pc := 45) (j := 0) dX9_count_45 flX9_12 (zOb_of rfl) rfl hS.e0_0 ?_
    refine zV_get (pc := 48) (j := 2) dX9_count_48 flX9_123 (zOb_of rfl) rfl rfl ?_
    refine zV_iret (pc := 51) dX9_count_51 trivial ⟨Nat.zero_le _, Nat.zero_le _⟩ ?_
    first
      | exact zPe (by rw [c_1]; rfl)
      | exact zPe (by rw [if_neg (by omega), if_neg (by omega), if_neg (by omega), if_neg (by omega), if_neg (by omega)])
  · refine zV_tin (pc := 1) (tgt := 52) 2 dX9_count_1 (by omega) (by decide) (by decide) rfl (by decide) ?_
    refine zV_aload_n (pc := 52) (i := 0) dX9_count_52 rfl rfl ?_
    refine zV_get (pc := 53) (j := 4) dX9_count_53 flX9_84 (zOb_of rfl) rfl rfl ?_
    refine zV_iret (pc := 56) dX9_count_56 trivial ⟨Nat.zero_le _, Nat.zero_le _⟩ ?_
    first
      | exact zPe (by rw [c_1]; rfl)
      | exact zPe (by rw [if_neg (by omega), if_neg (by omega), if_neg (by omega), if_neg (by omega), if_neg (by omega)])
  · refine zV_tin (pc := 1) (tgt := 57) 3 dX9_count_1 (by omega) (by decide) (by decide) rfl (by decide) ?_
    refine zV_aload_n (pc := 57) (i := 0) dX9_count_57 rfl rfl ?_
    refine zV_get (pc := 58) (j := 5) dX9_count_58 flX9_28 (zOb_of rfl) rfl hS.e0_5 ?_
    refine zV_get (pc := 61) (j := 1) dX9_count_61 flX9_282 (zOb_of rfl) rfl rfl ?_
    refine zV_iret (pc := 64) dX9_count_64 trivial ⟨Nat.zero_le _, Nat.zero_le _⟩ ?_
    first
      | exact zPe (by rw [c_1]; rfl)
      | exact zPe (by rw [if_neg (by omega), if_neg (by omega), if_neg (by omega), if_neg (by omega), if_neg (by omega)])
  · refine zV_tin (pc := 1) (tgt := 65) 4 dX9_count_1 (by omega) (by decide) (by decide) rfl (by decide) ?_
    refine zV_aload_n (pc := 65) (i := 0) dX9_count_65 rfl rfl ?_
    refine zV_get (pc := 66) (j := 0) dX9_count_66 flX9_12 (zOb_of rfl) rfl hS.e0_0 ?_
    refine zV_get (pc := 69) (j := 3) dX9_count_69 flX9_129 (zOb_of rfl) rfl rfl ?_
    refine zV_iret (pc := 72) dX9_count_72 trivial ⟨Nat.zero_le _, Nat.zero_le _⟩ ?_
    first
      | exact zPe (by rw [c_1]; rfl)
      | exact zPe (by rw [if_neg (by omega), if_neg (by omega), if_neg (by omega), if_neg (by omega), if_neg (by omega)])
  · refine zV_tout (pc := 1) (tgt := 73) dX9_count_1 (by omega) (by omega) (by decide) ?_
    refine zV_bipush (pc := 73) dX9_count_73 (by decide) ?_
    refine zV_iret (pc := 75) dX9_count_75 trivial ⟨Nat.zero_le _, Nat.zero_le _⟩ ?_
    first
      | exact zPe (by rw [c_1]; rfl)
      | exact zPe (by rw [if_neg (by omega), if_neg (by omega), if_neg (by omega), if_neg (by omega), if_neg (by omega)])
end
