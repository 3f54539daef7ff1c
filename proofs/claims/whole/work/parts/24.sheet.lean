/-! THE CLASS: image, back, taken, sheets (printed by wip/whole/p24.py) -/
theorem zU_ar {M : zM} {a j z a' : Int} (h : a' ≠ a) : zU M a j z a' = M a' := by
  funext x
  exact zU_a M a j z h
/-- a number cut to a sort -/
def z8 (x : Int) : Int := (x + 128) % 256 - 128
def z16 (x : Int) : Int := (x + 32768) % 65536 - 32768
def zct8 (s x : Int) : Int := if s = 0 then z8 x else if s = 1 then z16 x else x
theorem z_i2b {x : Int} (hx : -2147483648 ≤ x ∧ x ≤ 2147483647) : (Int32.ofInt x).toInt8.toInt32 = Int32.ofInt (z8 x) := by
  apply Int32.toInt_inj.1
  rw [Int8.toInt_toInt32, Int32.toInt_toInt8, zw_eq, zw_eq, zw_id hx, zw_id (by unfold z8; omega), Int.bmod_def]
  unfold z8
  show (if x % (256 : Int) < (256 + 1) / 2 then x % 256 else x % 256 - 256) = _
  split <;> omega
theorem z_i2s {x : Int} (hx : -2147483648 ≤ x ∧ x ≤ 2147483647) : (Int32.ofInt x).toInt16.toInt32 = Int32.ofInt (z16 x) := by
  apply Int32.toInt_inj.1
  rw [Int16.toInt_toInt32, Int32.toInt_toInt16, zw_eq, zw_eq, zw_id hx, zw_id (by unfold z16; omega), Int.bmod_def]
  unfold z16
  show (if x % (65536 : Int) < (65536 + 1) / 2 then x % 65536 else x % 65536 - 65536) = _
  split <;> omega
/-- a kind is one, or under one -/
def zun (v k : Int) : Prop := 0 ≤ v ∧ (k = v ∨ k = 0 ∨ (v = 3 ∧ k = 1) ∨ (v = 4 ∧ k = 2))
def zab (v : Int) : Int := if v = 1 ∨ v = 2 ∨ v = 5 then 0 else if v = 3 then 1 else if v = 4 then 2 else -1
def zdp (v : Int) : Int := if v < 0 then 0 else if v = 0 then 1 else if v = 3 ∨ v = 4 then 3 else 2
section
variable {g : zG} {N : Nat} {M : zM}
set_option maxRecDepth 20000 in
set_option maxHeartbeats 2000000 in
theorem kX8_kindAbove {v : Int} (hv : 0 ≤ v ∧ v ≤ 5) : zK g yX8_kindAbove xX8_kindAbove [zi v] N M (zPp (zi (zab v)) N M) := by
  refine zK_of (ls0 := [zi v]) (by decide) rfl (by decide) rfl (Nat.le_of_ble_eq_true rfl) ?_
  refine zV_iload_n (pc := 0) (i := 0) dX8_kindAbove_0 rfl rfl ?_
  rcases (show v = 0 ∨ v = 1 ∨ v = 2 ∨ v = 3 ∨ v = 4 ∨ v = 5  by omega) with c_1 | c_1 | c_1 | c_1 | c_1 | c_1
  · refine zV_tout (pc := 1) (tgt := 42) dX8_kindAbove_1 (by omega) (by omega) (by decide) ?_
    refine zV_iconst (pc := 42) dX8_kindAbove_42 ?_
    refine zV_iret (pc := 43) dX8_kindAbove_43 trivial ⟨Nat.zero_le _, Nat.zero_le _⟩ ?_
    exact zPe (by rw [c_1]; rfl)
  · refine zV_tin (pc := 1) (tgt := 36) 0 dX8_kindAbove_1 (by omega) (by decide) (by decide) rfl (by decide) ?_
    refine zV_iconst (pc := 36) dX8_kindAbove_36 ?_
    refine zV_iret (pc := 37) dX8_kindAbove_37 trivial ⟨Nat.zero_le _, Nat.zero_le _⟩ ?_
    exact zPe (by rw [c_1]; rfl)
  · refine zV_tin (pc := 1) (tgt := 36) 1 dX8_kindAbove_1 (by omega) (by decide) (by decide) rfl (by decide) ?_
    refine zV_iconst (pc := 36) dX8_kindAbove_36 ?_
    refine zV_iret (pc := 37) dX8_kindAbove_37 trivial ⟨Nat.zero_le _, Nat.zero_le _⟩ ?_
    exact zPe (by rw [c_1]; rfl)
  · refine zV_tin (pc := 1) (tgt := 38) 2 dX8_kindAbove_1 (by omega) (by decide) (by decide) rfl (by decide) ?_
    refine zV_iconst (pc := 38) dX8_kindAbove_38 ?_
    refine zV_iret (pc := 39) dX8_kindAbove_39 trivial ⟨Nat.zero_le _, Nat.zero_le _⟩ ?_
    exact zPe (by rw [c_1]; rfl)
  · refine zV_tin (pc := 1) (tgt := 40) 3 dX8_kindAbove_1 (by omega) (by decide) (by decide) rfl (by decide) ?_
    refine zV_iconst (pc := 40) dX8_kindAbove_40 ?_
    refine zV_iret (pc := 41) dX8_kindAbove_41 trivial ⟨Nat.zero_le _, Nat.zero_le _⟩ ?_
    exact zPe (by rw [c_1]; rfl)
  · refine zV_tin (pc := 1) (tgt := 36) 4 dX8_kindAbove_1 (by omega) (by decide) (by decide) rfl (by decide) ?_
    refine zV_iconst (pc := 36) dX8_kindAbove_36 ?_
    refine zV_iret (pc := 37) dX8_kindAbove_37 trivial ⟨Nat.zero_le _, Nat.zero_le _⟩ ?_
    exact zPe (by rw [c_1]; rfl)
set_option maxRecDepth 20000 in
set_option maxHeartbeats 2000000 in
theorem kX8_iuL {a k0 v0 : Int} (hO : zOb N a 8) (hk : 0 ≤ k0 ∧ k0 ≤ 5) : ∀ (k : Nat) (i v : Int), i + k = 6 → 0 ≤ i → -1 ≤ v ∧ v ≤ 5 → zdp v ≤ k → (zun v0 k0 ↔ zun v k0) → zV g xX8_isUnder (zPp (zi (zb (zun v0 k0))) N M) 7 [zr a, zi k0, zi v, zi i] [] N M 0 0 := by
  intro k
  induction k with
  | zero =>
    intro i v h0 h1 h2 h3 h4
    refine zV_iload_n (pc := 7) (i := 3) dX8_isUnder_7 rfl rfl ?_
    refine zV_bipush (pc := 8) dX8_isUnder_8 (by decide) ?_
    refine zV_icmp_ge (pc := 10) (tgt := 36) dX8_isUnder_10 (by decide) (by omega) (fun c_10 => ?_) (fun c_10 => absurd (by omega) c_10)
    refine zV_iconst (pc := 36) dX8_isUnder_36 ?_
    refine zV_iret (pc := 37) dX8_isUnder_37 (by first | exact zok_b1 | exact zok_b0 | exact zok_b) ⟨Nat.zero_le _, Nat.zero_le _⟩ ?_
    exact zPf (fun q => by have := h4.mp q; unfold zun at this; unfold zdp at h3; split at h3 <;> omega)
  | succ k ih =>
    intro i v h0 h1 h2 h3 h4
    refine zV_iload_n (pc := 7) (i := 3) dX8_isUnder_7 rfl rfl ?_
    refine zV_bipush (pc := 8) dX8_isUnder_8 (by decide) ?_
    refine zV_icmp_ge (pc := 10) (tgt := 36) dX8_isUnder_10 (by decide) (by omega) (fun c_10 => absurd c_10 (by omega)) (fun c_10 => ?_)
    refine zV_iload_n (pc := 13) (i := 2) dX8_isUnder_13 rfl rfl ?_
    refine zV_iconst (pc := 14) dX8_isUnder_14 ?_
    refine zV_icmp_eq (pc := 15) (tgt := 36) dX8_isUnder_15 (by decide) (by omega) (fun c_15 => ?_) (fun c_15 => ?_)
    · refine zV_iconst (pc := 36) dX8_isUnder_36 ?_
      refine zV_iret (pc := 37) dX8_isUnder_37 (by first | exact zok_b1 | exact zok_b0 | exact zok_b) ⟨Nat.zero_le _, Nat.zero_le _⟩ ?_
      first
        | exact zPt (h4.mpr (by unfold zun; omega))
        | exact zPf (fun q => by have := h4.mp q; unfold zun at this; omega)
    · refine zV_iload_n (pc := 18) (i := 2) dX8_isUnder_18 rfl rfl ?_
      refine zV_iload_n (pc := 19) (i := 1) dX8_isUnder_19 rfl rfl ?_
      refine zV_icmp_ne (pc := 20) (tgt := 25) dX8_isUnder_20 (by decide) (by omega) (fun c_20 => ?_) (fun c_20 => ?_)
      · refine zV_iload_n (pc := 25) (i := 2) dX8_isUnder_25 rfl rfl ?_
        refine zV_isp (pc := 26) dX8_isUnder_26 klX8_52 mX8_kindAbove rfl ⟨Nat.zero_le _, Nat.zero_le _⟩ (kX8_kindAbove (by omega)) rfl rfl (Nat.le_of_ble_eq_true rfl) ?_
        refine zV_istore_n (pc := 29) (i := 2) dX8_isUnder_29 rfl rfl ?_
        try dsimp only [List.set_cons_succ, List.set_cons_zero]
        refine zV_iinc (pc := 30) dX8_isUnder_30 rfl rfl ?_
        try dsimp only [List.set_cons_succ, List.set_cons_zero]
        refine zV_goto (pc := 33) (tgt := 7) dX8_isUnder_33 (by decide) ?_
        refine ih (i + 1) (zab v) (by omega) (by omega) ?_ ?_ ?_
        · unfold zab; (repeat' split) <;> omega
        · unfold zdp at h3 ⊢; unfold zab; (repeat' split) <;> (repeat' split at h3) <;> omega
        · rw [h4]; unfold zun zab; (repeat' split) <;> omega
      · refine zV_iconst (pc := 23) dX8_isUnder_23 ?_
        refine zV_iret (pc := 24) dX8_isUnder_24 (by first | exact zok_b1 | exact zok_b0 | exact zok_b) ⟨Nat.zero_le _, Nat.zero_le _⟩ ?_
        first
          | exact zPt (h4.mpr (by unfold zun; omega))
          | exact zPf (fun q => by have := h4.mp q; unfold zun at this; omega)
set_option maxRecDepth 20000 in
set_option maxHeartbeats 2000000 in
theorem kX8_isUnder {a k : Int} (hO : zOb N a 8) (hk : 0 ≤ k ∧ k ≤ 5) (hv : 0 ≤ M a 0 ∧ M a 0 ≤ 5) : zK g yX8_isUnder xX8_isUnder [zr a, zi k] N M (zPp (zi (zb (zun (M a 0) k))) N M) := by
  refine zK_of (ls0 := [zr a, zi k, (3, 0), (3, 0)]) (by decide) rfl (by decide) rfl (Nat.le_of_ble_eq_true rfl) ?_
  refine zV_aload_n (pc := 0) (i := 0) dX8_isUnder_0 rfl rfl ?_
  refine zV_get (pc := 1) (j := 0) dX8_isUnder_1 flX8_9 hO rfl rfl ?_
  refine zV_istore_n (pc := 4) (i := 2) dX8_isUnder_4 rfl rfl ?_
  try dsimp only [List.set_cons_succ, List.set_cons_zero]
  refine zV_iconst (pc := 5) dX8_isUnder_5 ?_
  refine zV_istore_n (pc := 6) (i := 3) dX8_isUnder_6 rfl rfl ?_
  try dsimp only [List.set_cons_succ, List.set_cons_zero]
  exact kX8_iuL hO hk 6 0 (M a 0) (by omega) (by omega) (by omega) (by unfold zdp; (repeat' split) <;> omega) Iff.rfl
set_option maxRecDepth 20000 in
set_option maxHeartbeats 2000000 in
theorem kX9_taken (hR : zRo M) {i k : Int} (hi : -2147483648 ≤ i ∧ i ≤ 2147483647) (hk : -2147483648 ≤ k ∧ k ≤ 2147483647) : zK g yX9_taken xX9_taken [zr 0, zi i, zi k] 75 M (zPp (zi (if 0 ≤ k ∧ k ≤ 5 then (if 0 ≤ i ∧ i < M 1 1 then zif (zun (M (3 + i) 0) k) (M (3 + i) 1) (-13) else -11) else -2)) 75 M) := by
  refine zK_of (ls0 := [zr 0, zi i, zi k]) (by decide) rfl (by decide) rfl (Nat.le_of_ble_eq_true rfl) ?_
  obtain ⟨hS, hW, hU, hh⟩ := id hR
  have hn := hW.1
  refine zV_iconst (pc := 0) dX9_taken_0 ?_
  refine zV_iload_n (pc := 1) (i := 2) dX9_taken_1 rfl rfl ?_
  refine zV_isp (pc := 2) dX9_taken_2 klX9_104 mX9_mayBe rfl ⟨Nat.zero_le _, Nat.zero_le _⟩ (kX9_mayBe (by omega) (by omega)) rfl rfl (Nat.le_of_ble_eq_true rfl) ?_
  refine zV_if_neb (pc := 5) (tgt := 11) dX9_taken_5 (by decide) (fun c_5 => ?_) (fun c_5 => ?_)
  · refine zV_aload_n (pc := 11) (i := 0) dX9_taken_11 rfl rfl ?_
    refine zV_get (pc := 12) (j := 0) dX9_taken_12 flX9_12 (zOb_of rfl) rfl hS.e0_0 ?_
    refine zV_iload_n (pc := 15) (i := 1) dX9_taken_15 rfl rfl ?_
    refine zV_ivp (pc := 16) (ci := 5) dX9_taken_16 klX9_100 mX5_has ⟨by decide, rfl⟩ rfl ⟨Nat.zero_le _, Nat.zero_le _⟩ (kX5_has hS hn (by omega)) (zOb_of rfl) rfl rfl (Nat.le_of_ble_eq_true rfl) ?_
    refine zV_if_neb (pc := 19) (tgt := 25) dX9_taken_19 (by decide) (fun c_19 => ?_) (fun c_19 => ?_)
    · refine zV_aload_n (pc := 25) (i := 0) dX9_taken_25 rfl rfl ?_
      refine zV_get (pc := 26) (j := 0) dX9_taken_26 flX9_12 (zOb_of rfl) rfl hS.e0_0 ?_
      refine zV_get (pc := 29) (j := 0) dX9_taken_29 flX9_108 (zOb_of rfl) rfl hS.e1_0 ?_
      refine zV_iload_n (pc := 32) (i := 1) dX9_taken_32 rfl rfl ?_
      refine zV_aald (pc := 33) dX9_taken_33 (zAr_of rfl : zAr 75 2 2 6) ⟨rfl, rfl⟩ (by omega) (hS.th (by omega)) ?_
      refine zV_iload_n (pc := 34) (i := 2) dX9_taken_34 rfl rfl ?_
      refine zV_ivp (pc := 35) (ci := 8) dX9_taken_35 klX9_303 mX8_isUnder ⟨by decide, rfl⟩ rfl ⟨Nat.zero_le _, Nat.zero_le _⟩ (kX8_isUnder (zOb_th (by omega)) (by unfold zRg at c_5; omega) (hW.2 i (by omega) (by omega)).1) (zOb_th (by omega)) rfl rfl (Nat.le_of_ble_eq_true rfl) ?_
      refine zV_if_eqb (pc := 38) (tgt := 56) dX9_taken_38 (by decide) (fun c_38 => ?_) (fun c_38 => ?_)
      · refine zV_bipush (pc := 56) dX9_taken_56 (by decide) ?_
        refine zV_iret (pc := 58) dX9_taken_58 trivial ⟨Nat.zero_le _, Nat.zero_le _⟩ ?_
        first
          | exact zPe (by rw [if_neg (by unfold zRg at c_5; omega)])
          | exact zPe (by rw [if_pos (by unfold zRg at c_5; omega), if_neg c_19])
          | exact zPe (by rw [if_pos (by unfold zRg at c_5; omega), if_pos c_19, zif_t c_38])
          | exact zPe (by rw [if_pos (by unfold zRg at c_5; omega), if_pos c_19, zif_f c_38])
      · refine zV_aload_n (pc := 41) (i := 0) dX9_taken_41 rfl rfl ?_
        refine zV_get (pc := 42) (j := 0) dX9_taken_42 flX9_12 (zOb_of rfl) rfl hS.e0_0 ?_
        refine zV_get (pc := 45) (j := 0) dX9_taken_45 flX9_108 (zOb_of rfl) rfl hS.e1_0 ?_
        refine zV_iload_n (pc := 48) (i := 1) dX9_taken_48 rfl rfl ?_
        refine zV_aald (pc := 49) dX9_taken_49 (zAr_of rfl : zAr 75 2 2 6) ⟨rfl, rfl⟩ (by omega) (hS.th (by omega)) ?_
        refine zV_get (pc := 50) (j := 1) dX9_taken_50 flX9_306 (zOb_th (by omega)) rfl rfl ?_
        refine zV_goto (pc := 53) (tgt := 58) dX9_taken_53 (by decide) ?_
        refine zV_iret (pc := 58) dX9_taken_58 trivial ⟨Nat.zero_le _, Nat.zero_le _⟩ ?_
        first
          | exact zPe (by rw [if_neg (by unfold zRg at c_5; omega)])
          | exact zPe (by rw [if_pos (by unfold zRg at c_5; omega), if_neg c_19])
          | exact zPe (by rw [if_pos (by unfold zRg at c_5; omega), if_pos c_19, zif_t c_38])
          | exact zPe (by rw [if_pos (by unfold zRg at c_5; omega), if_pos c_19, zif_f c_38])
    · refine zV_bipush (pc := 22) dX9_taken_22 (by decide) ?_
      refine zV_iret (pc := 24) dX9_taken_24 trivial ⟨Nat.zero_le _, Nat.zero_le _⟩ ?_
      first
        | exact zPe (by rw [if_neg (by unfold zRg at c_5; omega)])
        | exact zPe (by rw [if_pos (by unfold zRg at c_5; omega), if_neg c_19])
        | exact zPe (by rw [if_pos (by unfold zRg at c_5; omega), if_pos c_19, zif_t c_38])
        | exact zPe (by rw [if_pos (by unfold zRg at c_5; omega), if_pos c_19, zif_f c_38])
  · refine zV_bipush (pc := 8) dX9_taken_8 (by decide) ?_
    refine zV_iret (pc := 10) dX9_taken_10 trivial ⟨Nat.zero_le _, Nat.zero_le _⟩ ?_
    first
      | exact zPe (by rw [if_neg (by unfold zRg at c_5; omega)])
      | exact zPe (by rw [if_pos (by unfold zRg at c_5; omega), if_neg c_19])
      | exact zPe (by rw [if_pos (by unfold zRg at c_5; omega), if_pos c_19, zif_t c_38])
      | exact zPe (by rw [if_pos (by unfold zRg at c_5; omega), if_pos c_19, zif_f c_38])
set_option maxRecDepth 20000 in
set_option maxHeartbeats 2000000 in
theorem kX6_isMissing (hS : zSt M) {s : Int} (hs : 0 ≤ s ∧ s < 4) (hr : -1 ≤ M (44 + 2 * s) 0 ∧ M (44 + 2 * s) 0 ≤ 2) : zK g yX6_isMissing xX6_isMissing [zr (44 + 2 * s)] 75 M (zPp (zi (zb (M (44 + 2 * s) 0 = -1))) 75 M) := by
  refine zK_of (ls0 := [zr (44 + 2 * s)]) (by decide) rfl (by decide) rfl (Nat.le_of_ble_eq_true rfl) ?_
  refine zV_aload_n (pc := 0) (i := 0) dX6_isMissing_0 rfl rfl ?_
  refine zV_get (pc := 1) (j := 0) dX6_isMissing_1 flX6_9 (zOb_sh hs) rfl rfl ?_
  refine zV_iconst (pc := 4) dX6_isMissing_4 ?_
  refine zV_icmp_ne (pc := 5) (tgt := 12) dX6_isMissing_5 (by decide) (by omega) (fun c_5 => ?_) (fun c_5 => ?_)
  · refine zV_iconst (pc := 12) dX6_isMissing_12 ?_
    refine zV_iret (pc := 13) dX6_isMissing_13 (by first | exact zok_b1 | exact zok_b0 | exact zok_b) ⟨Nat.zero_le _, Nat.zero_le _⟩ ?_
    first
      | (exfalso; omega)
      | exact zPt (by omega)
      | exact zPf (by omega)
  · refine zV_iconst (pc := 8) dX6_isMissing_8 ?_
    refine zV_goto (pc := 9) (tgt := 13) dX6_isMissing_9 (by decide) ?_
    refine zV_iret (pc := 13) dX6_isMissing_13 (by first | exact zok_b1 | exact zok_b0 | exact zok_b) ⟨Nat.zero_le _, Nat.zero_le _⟩ ?_
    first
      | (exfalso; omega)
      | exact zPt (by omega)
      | exact zPf (by omega)
set_option maxRecDepth 20000 in
set_option maxHeartbeats 2000000 in
theorem kX6_hasItems (hS : zSt M) {s : Int} (hs : 0 ≤ s ∧ s < 4) (hz : 0 ≤ M (44 + 2 * s) 1 ∧ M (44 + 2 * s) 1 ≤ 40) {i n : Int} (hi : -2147483648 ≤ i ∧ i ≤ 2147483647) (hn : -2147483648 ≤ n ∧ n ≤ 2147483647) : zK g yX6_hasItems xX6_hasItems [zr (44 + 2 * s), zi i, zi n] 75 M (zPp (zi (zb (0 ≤ n ∧ 0 ≤ i ∧ i ≤ M (44 + 2 * s) 1 - n))) 75 M) := by
  refine zK_of (ls0 := [zr (44 + 2 * s), zi i, zi n]) (by decide) rfl (by decide) rfl (Nat.le_of_ble_eq_true rfl) ?_
  refine zV_iload_n (pc := 0) (i := 2) dX6_hasItems_0 rfl rfl ?_
  refine zV_if_lt (pc := 1) (tgt := 42) dX6_hasItems_1 (by decide) (by omega) (fun c_1 => ?_) (fun c_1 => ?_)
  · refine zV_iconst (pc := 42) dX6_hasItems_42 ?_
    refine zV_iret (pc := 43) dX6_hasItems_43 (by first | exact zok_b1 | exact zok_b0 | exact zok_b) ⟨Nat.zero_le _, Nat.zero_le _⟩ ?_
    first
      | (exfalso; omega)
      | exact zPt (by omega)
      | exact zPf (by omega)
  · refine zV_iload_n (pc := 4) (i := 2) dX6_hasItems_4 rfl rfl ?_
    refine zV_aload_n (pc := 5) (i := 0) dX6_hasItems_5 rfl rfl ?_
    refine zV_get (pc := 6) (j := 1) dX6_hasItems_6 flX6_19 (zOb_sh hs) rfl rfl ?_
    refine zV_icmp_gt (pc := 9) (tgt := 42) dX6_hasItems_9 (by decide) (by omega) (fun c_9 => ?_) (fun c_9 => ?_)
    · refine zV_iconst (pc := 42) dX6_hasItems_42 ?_
      refine zV_iret (pc := 43) dX6_hasItems_43 (by first | exact zok_b1 | exact zok_b0 | exact zok_b) ⟨Nat.zero_le _, Nat.zero_le _⟩ ?_
      first
        | (exfalso; omega)
        | exact zPt (by omega)
        | exact zPf (by omega)
    · refine zV_iload_n (pc := 12) (i := 1) dX6_hasItems_12 rfl rfl ?_
      refine zV_if_lt (pc := 13) (tgt := 42) dX6_hasItems_13 (by decide) (by omega) (fun c_13 => ?_) (fun c_13 => ?_)
      · refine zV_iconst (pc := 42) dX6_hasItems_42 ?_
        refine zV_iret (pc := 43) dX6_hasItems_43 (by first | exact zok_b1 | exact zok_b0 | exact zok_b) ⟨Nat.zero_le _, Nat.zero_le _⟩ ?_
        first
          | (exfalso; omega)
          | exact zPt (by omega)
          | exact zPf (by omega)
      · refine zV_iload_n (pc := 16) (i := 1) dX6_hasItems_16 rfl rfl ?_
        refine zV_aload_n (pc := 17) (i := 0) dX6_hasItems_17 rfl rfl ?_
        refine zV_get (pc := 18) (j := 1) dX6_hasItems_18 flX6_19 (zOb_sh hs) rfl rfl ?_
        refine zV_iload_n (pc := 21) (i := 2) dX6_hasItems_21 rfl rfl ?_
        refine zV_isub (pc := 22) dX6_hasItems_22 ?_
        refine zV_icmp_gt (pc := 23) (tgt := 42) dX6_hasItems_23 (by decide) (by omega) (fun c_23 => ?_) (fun c_23 => ?_)
        · refine zV_iconst (pc := 42) dX6_hasItems_42 ?_
          refine zV_iret (pc := 43) dX6_hasItems_43 (by first | exact zok_b1 | exact zok_b0 | exact zok_b) ⟨Nat.zero_le _, Nat.zero_le _⟩ ?_
          first
            | (exfalso; omega)
            | exact zPt (by omega)
            | exact zPf (by omega)
        · refine zV_aload_n (pc := 26) (i := 0) dX6_hasItems_26 rfl rfl ?_
          refine zV_get (pc := 27) (j := 1) dX6_hasItems_27 flX6_19 (zOb_sh hs) rfl rfl ?_
          refine zV_aload_n (pc := 30) (i := 0) dX6_hasItems_30 rfl rfl ?_
          refine zV_get (pc := 31) (j := 2) dX6_hasItems_31 flX6_15 (zOb_sh hs) rfl (hS.shi hs) ?_
          refine zV_alen (pc := 34) dX6_hasItems_34 (zAr_sh hs) ?_
          refine zV_icmp_gt (pc := 35) (tgt := 42) dX6_hasItems_35 (by decide) (by omega) (fun c_35 => ?_) (fun c_35 => ?_)
          · refine zV_iconst (pc := 42) dX6_hasItems_42 ?_
            refine zV_iret (pc := 43) dX6_hasItems_43 (by first | exact zok_b1 | exact zok_b0 | exact zok_b) ⟨Nat.zero_le _, Nat.zero_le _⟩ ?_
            first
              | (exfalso; omega)
              | exact zPt (by omega)
              | exact zPf (by omega)
          · refine zV_iconst (pc := 38) dX6_hasItems_38 ?_
            refine zV_goto (pc := 39) (tgt := 43) dX6_hasItems_39 (by decide) ?_
            refine zV_iret (pc := 43) dX6_hasItems_43 (by first | exact zok_b1 | exact zok_b0 | exact zok_b) ⟨Nat.zero_le _, Nat.zero_le _⟩ ?_
            first
              | (exfalso; omega)
              | exact zPt (by omega)
              | exact zPf (by omega)
set_option maxRecDepth 20000 in
set_option maxHeartbeats 2000000 in
theorem kX6_beL (hS : zSt M) {s : Int} (hs : 0 ≤ s ∧ s < 4) {x n : Int} : ∀ (k : Nat) (i : Int) (M1 : zM), i + k = 40 → 0 ≤ i → (M1 (44 + 2 * s) 0 = x ∧ M1 (44 + 2 * s) 1 = n) → (∀ e : Int, 0 ≤ e → e < i → M1 (45 + 2 * s) e = 0) → zFr (fun a j => (a = 44 + 2 * s ∧ (j = 0 ∨ j = 1)) ∨ a = 45 + 2 * s) M M1 → zV g xX6_become (zPn 75 (fun M1 => M1 (44 + 2 * s) 0 = x ∧ M1 (44 + 2 * s) 1 = n ∧ (∀ i : Int, 0 ≤ i → i < 40 → M1 (45 + 2 * s) i = 0) ∧ zFr (fun a j => (a = 44 + 2 * s ∧ (j = 0 ∨ j = 1)) ∨ a = 45 + 2 * s) M M1)) 12 [zr (44 + 2 * s), zi x, zi n, zi i] [] 75 M1 0 0 := by
  intro k
  induction k with
  | zero =>
    intro i M1 h0 h1 h2 h3 h4
    have eI : M1 (44 + 2 * s) 2 = 45 + 2 * s := (h4 _ _ (by omega)).trans (hS.shi hs)
    refine zV_iload_n (pc := 12) (i := 3) dX6_become_12 rfl rfl ?_
    refine zV_aload_n (pc := 13) (i := 0) dX6_become_13 rfl rfl ?_
    refine zV_get (pc := 14) (j := 2) dX6_become_14 flX6_15 (zOb_sh hs) rfl eI ?_
    refine zV_alen (pc := 17) dX6_become_17 (zAr_sh hs) ?_
    refine zV_icmp_ge (pc := 18) (tgt := 34) dX6_become_18 (by decide) (by omega) (fun c_18 => ?_) (fun c_18 => absurd (by omega) c_18)
    refine zV_vret (pc := 34) dX6_become_34 trivial ⟨Nat.zero_le _, Nat.zero_le _⟩ ?_
    exact ⟨rfl, rfl, h2.1, h2.2, fun e e0 e1 => h3 e e0 (by omega), h4⟩
  | succ k ih =>
    intro i M1 h0 h1 h2 h3 h4
    have eI : M1 (44 + 2 * s) 2 = 45 + 2 * s := (h4 _ _ (by omega)).trans (hS.shi hs)
    refine zV_iload_n (pc := 12) (i := 3) dX6_become_12 rfl rfl ?_
    refine zV_aload_n (pc := 13) (i := 0) dX6_become_13 rfl rfl ?_
    refine zV_get (pc := 14) (j := 2) dX6_become_14 flX6_15 (zOb_sh hs) rfl eI ?_
    refine zV_alen (pc := 17) dX6_become_17 (zAr_sh hs) ?_
    refine zV_icmp_ge (pc := 18) (tgt := 34) dX6_become_18 (by decide) (by omega) (fun c_18 => absurd c_18 (by omega)) (fun c_18 => ?_)
    refine zV_aload_n (pc := 21) (i := 0) dX6_become_21 rfl rfl ?_
    refine zV_get (pc := 22) (j := 2) dX6_become_22 flX6_15 (zOb_sh hs) rfl eI ?_
    refine zV_iload_n (pc := 25) (i := 3) dX6_become_25 rfl rfl ?_
    refine zV_iconst (pc := 26) dX6_become_26 ?_
    refine zV_iast (pc := 27) dX6_become_27 (zAr_sh hs) (by omega) ?_
    refine zV_iinc (pc := 28) dX6_become_28 rfl rfl ?_
    try dsimp only [List.set_cons_succ, List.set_cons_zero]
    refine zV_goto (pc := 31) (tgt := 12) dX6_become_31 (by decide) ?_
    exact ih (i + 1) _ (by omega) (by omega) ⟨(zU_a _ _ _ _ (by omega)).trans h2.1, (zU_a _ _ _ _ (by omega)).trans h2.2⟩ (zU_to (F := fun _ => 0) h3 rfl) (zFr.up h4 (Or.inr rfl))
set_option maxRecDepth 20000 in
set_option maxHeartbeats 2000000 in
theorem kX6_become (hS : zSt M) {s : Int} (hs : 0 ≤ s ∧ s < 4) {x n : Int} : zK g yX6_become xX6_become [zr (44 + 2 * s), zi x, zi n] 75 M (zPn 75 (fun M1 => M1 (44 + 2 * s) 0 = x ∧ M1 (44 + 2 * s) 1 = n ∧ (∀ i : Int, 0 ≤ i → i < 40 → M1 (45 + 2 * s) i = 0) ∧ zFr (fun a j => (a = 44 + 2 * s ∧ (j = 0 ∨ j = 1)) ∨ a = 45 + 2 * s) M M1)) := by
  refine zK_of (ls0 := [zr (44 + 2 * s), zi x, zi n, (3, 0)]) (by decide) rfl (by decide) rfl (Nat.le_of_ble_eq_true rfl) ?_
  refine zV_aload_n (pc := 0) (i := 0) dX6_become_0 rfl rfl ?_
  refine zV_iload_n (pc := 1) (i := 1) dX6_become_1 rfl rfl ?_
  refine zV_put (pc := 2) (j := 0) dX6_become_2 flX6_9 rfl (zOb_sh hs) rfl trivial ?_
  refine zV_aload_n (pc := 5) (i := 0) dX6_become_5 rfl rfl ?_
  refine zV_iload_n (pc := 6) (i := 2) dX6_become_6 rfl rfl ?_
  refine zV_put (pc := 7) (j := 1) dX6_become_7 flX6_19 rfl (zOb_sh hs) rfl trivial ?_
  refine zV_iconst (pc := 10) dX6_become_10 ?_
  refine zV_istore_n (pc := 11) (i := 3) dX6_become_11 rfl rfl ?_
  try dsimp only [List.set_cons_succ, List.set_cons_zero]
  exact kX6_beL hS hs 40 0 _ (by omega) (by omega) ⟨(zU_j _ _ _ _ (by decide)).trans (zU_s _ _ _ _), zU_s _ _ _ _⟩ (fun e e0 e1 => absurd e0 (by omega)) (zFr.up (zFr.up zFr.rf (Or.inl ⟨rfl, Or.inl rfl⟩)) (Or.inl ⟨rfl, Or.inr rfl⟩))
set_option maxRecDepth 20000 in
set_option maxHeartbeats 2000000 in
theorem kX6_put (hS : zSt M) {s : Int} (hs : 0 ≤ s ∧ s < 4) (hr : -1 ≤ M (44 + 2 * s) 0 ∧ M (44 + 2 * s) 0 ≤ 2) {i v : Int} (hi : -2147483648 ≤ i ∧ i ≤ 2147483647) (hv : -2147483648 ≤ v ∧ v ≤ 2147483647) : zK g yX6_put xX6_put [zr (44 + 2 * s), zi i, zi v] 75 M (zPn 75 (fun M1 => M1 = if 0 ≤ i ∧ i < 40 then zU M (45 + 2 * s) i (zct8 (M (44 + 2 * s) 0) v) else M)) := by
  refine zK_of (ls0 := [zr (44 + 2 * s), zi i, zi v]) (by decide) rfl (by decide) rfl (Nat.le_of_ble_eq_true rfl) ?_
  refine zV_iload_n (pc := 0) (i := 1) dX6_put_0 rfl rfl ?_
  refine zV_if_lt (pc := 1) (tgt := 13) dX6_put_1 (by decide) (by omega) (fun c_1 => ?_) (fun c_1 => ?_)
  · refine zV_vret (pc := 13) dX6_put_13 trivial ⟨Nat.zero_le _, Nat.zero_le _⟩ ?_
    first
      | exact ⟨rfl, rfl, by rw [if_neg (by omega)]⟩
      | exact ⟨rfl, rfl, by rw [if_pos (by omega), c_18]; rfl⟩
      | exact ⟨rfl, rfl, by rw [if_pos (by omega)]; unfold zct8; rw [if_neg (by omega), if_neg (by omega)]⟩
  · refine zV_iload_n (pc := 4) (i := 1) dX6_put_4 rfl rfl ?_
    refine zV_aload_n (pc := 5) (i := 0) dX6_put_5 rfl rfl ?_
    refine zV_get (pc := 6) (j := 2) dX6_put_6 flX6_15 (zOb_sh hs) rfl (hS.shi hs) ?_
    refine zV_alen (pc := 9) dX6_put_9 (zAr_sh hs) ?_
    refine zV_icmp_lt (pc := 10) (tgt := 14) dX6_put_10 (by decide) (by omega) (fun c_10 => ?_) (fun c_10 => ?_)
    · refine zV_aload_n (pc := 14) (i := 0) dX6_put_14 rfl rfl ?_
      refine zV_get (pc := 15) (j := 0) dX6_put_15 flX6_9 (zOb_sh hs) rfl rfl ?_
      rcases (show M (44 + 2 * s) 0 = 0 ∨ M (44 + 2 * s) 0 = 1 ∨ M (44 + 2 * s) 0 = -1 ∨ M (44 + 2 * s) 0 = 2  by omega) with c_18 | c_18 | c_18 | c_18
      · refine zV_lsw (pc := 18) (tgt := 44) dX6_put_18 (by omega) rfl (by first | (rw [c_18]; done) | (rw [c_18]; rfl)) (by decide) ?_
        refine zV_aload_n (pc := 44) (i := 0) dX6_put_44 rfl rfl ?_
        refine zV_get (pc := 45) (j := 2) dX6_put_45 flX6_15 (zOb_sh hs) rfl (hS.shi hs) ?_
        refine zV_iload_n (pc := 48) (i := 1) dX6_put_48 rfl rfl ?_
        refine zV_iload_n (pc := 49) (i := 2) dX6_put_49 rfl rfl ?_
        refine zV_i2b (pc := 50) dX6_put_50 (z_i2b hv) ?_
        refine zV_iast (pc := 51) dX6_put_51 (zAr_sh hs) (by omega) ?_
        refine zV_goto (pc := 52) (tgt := 73) dX6_put_52 (by decide) ?_
        refine zV_vret (pc := 73) dX6_put_73 trivial ⟨Nat.zero_le _, Nat.zero_le _⟩ ?_
        first
          | exact ⟨rfl, rfl, by rw [if_neg (by omega)]⟩
          | exact ⟨rfl, rfl, by rw [if_pos (by omega), c_18]; rfl⟩
          | exact ⟨rfl, rfl, by rw [if_pos (by omega)]; unfold zct8; rw [if_neg (by omega), if_neg (by omega)]⟩
      · refine zV_lsw (pc := 18) (tgt := 55) dX6_put_18 (by omega) rfl (by first | (rw [c_18]; done) | (rw [c_18]; rfl)) (by decide) ?_
        refine zV_aload_n (pc := 55) (i := 0) dX6_put_55 rfl rfl ?_
        refine zV_get (pc := 56) (j := 2) dX6_put_56 flX6_15 (zOb_sh hs) rfl (hS.shi hs) ?_
        refine zV_iload_n (pc := 59) (i := 1) dX6_put_59 rfl rfl ?_
        refine zV_iload_n (pc := 60) (i := 2) dX6_put_60 rfl rfl ?_
        refine zV_i2s (pc := 61) dX6_put_61 (z_i2s hv) ?_
        refine zV_iast (pc := 62) dX6_put_62 (zAr_sh hs) (by omega) ?_
        refine zV_goto (pc := 63) (tgt := 73) dX6_put_63 (by decide) ?_
        refine zV_vret (pc := 73) dX6_put_73 trivial ⟨Nat.zero_le _, Nat.zero_le _⟩ ?_
        first
          | exact ⟨rfl, rfl, by rw [if_neg (by omega)]⟩
          | exact ⟨rfl, rfl, by rw [if_pos (by omega), c_18]; rfl⟩
          | exact ⟨rfl, rfl, by rw [if_pos (by omega)]; unfold zct8; rw [if_neg (by omega), if_neg (by omega)]⟩
      · refine zV_lsw (pc := 18) (tgt := 66) dX6_put_18 (by omega) rfl (by first | (rw [c_18]; done) | (rw [c_18]; rfl)) (by decide) ?_
        refine zV_aload_n (pc := 66) (i := 0) dX6_put_66 rfl rfl ?_
        refine zV_get (pc := 67) (j := 2) dX6_put_67 flX6_15 (zOb_sh hs) rfl (hS.shi hs) ?_
        refine zV_iload_n (pc := 70) (i := 1) dX6_put_70 rfl rfl ?_
        refine zV_iload_n (pc := 71) (i := 2) dX6_put_71 rfl rfl ?_
        refine zV_iast (pc := 72) dX6_put_72 (zAr_sh hs) (by omega) ?_
        refine zV_vret (pc := 73) dX6_put_73 trivial ⟨Nat.zero_le _, Nat.zero_le _⟩ ?_
        first
          | exact ⟨rfl, rfl, by rw [if_neg (by omega)]⟩
          | exact ⟨rfl, rfl, by rw [if_pos (by omega), c_18]; rfl⟩
          | exact ⟨rfl, rfl, by rw [if_pos (by omega)]; unfold zct8; rw [if_neg (by omega), if_neg (by omega)]⟩
      · refine zV_lsw (pc := 18) (tgt := 66) dX6_put_18 (by omega) rfl (by first | (rw [c_18]; done) | (rw [c_18]; rfl)) (by decide) ?_
        refine zV_aload_n (pc := 66) (i := 0) dX6_put_66 rfl rfl ?_
        refine zV_get (pc := 67) (j := 2) dX6_put_67 flX6_15 (zOb_sh hs) rfl (hS.shi hs) ?_
        refine zV_iload_n (pc := 70) (i := 1) dX6_put_70 rfl rfl ?_
        refine zV_iload_n (pc := 71) (i := 2) dX6_put_71 rfl rfl ?_
        refine zV_iast (pc := 72) dX6_put_72 (zAr_sh hs) (by omega) ?_
        refine zV_vret (pc := 73) dX6_put_73 trivial ⟨Nat.zero_le _, Nat.zero_le _⟩ ?_
        first
          | exact ⟨rfl, rfl, by rw [if_neg (by omega)]⟩
          | exact ⟨rfl, rfl, by rw [if_pos (by omega), c_18]; rfl⟩
          | exact ⟨rfl, rfl, by rw [if_pos (by omega)]; unfold zct8; rw [if_neg (by omega), if_neg (by omega)]⟩
    · refine zV_vret (pc := 13) dX6_put_13 trivial ⟨Nat.zero_le _, Nat.zero_le _⟩ ?_
      first
        | exact ⟨rfl, rfl, by rw [if_neg (by omega)]⟩
        | exact ⟨rfl, rfl, by rw [if_pos (by omega), c_18]; rfl⟩
        | exact ⟨rfl, rfl, by rw [if_pos (by omega)]; unfold zct8; rw [if_neg (by omega), if_neg (by omega)]⟩
end
