/-! CONSTRUCTORS (printed by wip/whole/p66.py) -/
theorem zOb_mo {a : Int} {c N N' : Nat} (h : zOb N a c) (h2 : N ≤ N') : zOb N' a c := ⟨h.1, by have := h.2.1; omega, h.2.2⟩
theorem zht_0 : ∀ k, k < (zcl 0).2.2 → zfty (zty 0 k) 0 := by
  intro k hk
  have hk : k < 6 := hk
  rcases (show k = 0 ∨ k = 1 ∨ k = 2 ∨ k = 3 ∨ k = 4 ∨ k = 5 by omega) with rfl | rfl | rfl | rfl | rfl | rfl <;> first | exact trivial | exact Or.inl rfl
theorem zht_1 : ∀ k, k < (zcl 1).2.2 → zfty (zty 1 k) 0 := by
  intro k hk
  have hk : k < 5 := hk
  rcases (show k = 0 ∨ k = 1 ∨ k = 2 ∨ k = 3 ∨ k = 4 by omega) with rfl | rfl | rfl | rfl | rfl <;> first | exact trivial | exact Or.inl rfl
theorem zht_2 : ∀ k, k < (zcl 2).2.2 → zfty (zty 2 k) 0 := by
  intro k hk
  have hk : k < 2 := hk
  rcases (show k = 0 ∨ k = 1 by omega) with rfl | rfl <;> first | exact trivial | exact Or.inl rfl
theorem zht_3 : ∀ k, k < (zcl 3).2.2 → zfty (zty 3 k) 0 := by
  intro k hk
  have hk : k < 8 := hk
  rcases (show k = 0 ∨ k = 1 ∨ k = 2 ∨ k = 3 ∨ k = 4 ∨ k = 5 ∨ k = 6 ∨ k = 7 by omega) with rfl | rfl | rfl | rfl | rfl | rfl | rfl | rfl <;> first | exact trivial | exact Or.inl rfl
theorem zht_4 : ∀ k, k < (zcl 4).2.2 → zfty (zty 4 k) 0 := by
  intro k hk
  have hk : k < 3 := hk
  rcases (show k = 0 ∨ k = 1 ∨ k = 2 by omega) with rfl | rfl | rfl <;> first | exact trivial | exact Or.inl rfl
theorem zht_5 : ∀ k, k < (zcl 5).2.2 → zfty (zty 5 k) 0 := by
  intro k hk
  have hk : k < 4 := hk
  rcases (show k = 0 ∨ k = 1 ∨ k = 2 ∨ k = 3 by omega) with rfl | rfl | rfl | rfl <;> first | exact trivial | exact Or.inl rfl
theorem zht_6 : ∀ k, k < (zcl 6).2.2 → zfty (zty 6 k) 0 := by
  intro k hk
  have hk : k < 3 := hk
  rcases (show k = 0 ∨ k = 1 ∨ k = 2 by omega) with rfl | rfl | rfl <;> first | exact trivial | exact Or.inl rfl
theorem zht_7 : ∀ k, k < (zcl 7).2.2 → zfty (zty 7 k) 0 := by
  intro k hk
  have hk : k < 3 := hk
  rcases (show k = 0 ∨ k = 1 ∨ k = 2 by omega) with rfl | rfl | rfl <;> first | exact trivial | exact Or.inl rfl
theorem zht_8 : ∀ k, k < (zcl 8).2.2 → zfty (zty 8 k) 0 := by
  intro k hk
  have hk : k < 4 := hk
  rcases (show k = 0 ∨ k = 1 ∨ k = 2 ∨ k = 3 by omega) with rfl | rfl | rfl | rfl <;> first | exact trivial | exact Or.inl rfl
theorem zht_9 : ∀ k, k < (zcl 9).2.2 → zfty (zty 9 k) 0 := by
  intro k hk
  have hk : k < 11 := hk
  rcases (show k = 0 ∨ k = 1 ∨ k = 2 ∨ k = 3 ∨ k = 4 ∨ k = 5 ∨ k = 6 ∨ k = 7 ∨ k = 8 ∨ k = 9 ∨ k = 10 by omega) with rfl | rfl | rfl | rfl | rfl | rfl | rfl | rfl | rfl | rfl | rfl <;> first | exact trivial | exact Or.inl rfl
theorem zht_10 : ∀ k, k < (zcl 10).2.2 → zfty (zty 10 k) 0 := by
  intro k hk
  have hk : k < 43 := hk
  rcases (show k = 0 ∨ k = 1 ∨ k = 2 ∨ k = 3 ∨ k = 4 ∨ k = 5 ∨ k = 6 ∨ k = 7 ∨ k = 8 ∨ k = 9 ∨ k = 10 ∨ k = 11 ∨ k = 12 ∨ k = 13 ∨ k = 14 ∨ k = 15 ∨ k = 16 ∨ k = 17 ∨ k = 18 ∨ k = 19 ∨ k = 20 ∨ k = 21 ∨ k = 22 ∨ k = 23 ∨ k = 24 ∨ k = 25 ∨ k = 26 ∨ k = 27 ∨ k = 28 ∨ k = 29 ∨ k = 30 ∨ k = 31 ∨ k = 32 ∨ k = 33 ∨ k = 34 ∨ k = 35 ∨ k = 36 ∨ k = 37 ∨ k = 38 ∨ k = 39 ∨ k = 40 ∨ k = 41 ∨ k = 42 by omega) with rfl | rfl | rfl | rfl | rfl | rfl | rfl | rfl | rfl | rfl | rfl | rfl | rfl | rfl | rfl | rfl | rfl | rfl | rfl | rfl | rfl | rfl | rfl | rfl | rfl | rfl | rfl | rfl | rfl | rfl | rfl | rfl | rfl | rfl | rfl | rfl | rfl | rfl | rfl | rfl | rfl | rfl | rfl <;> first | exact trivial | exact Or.inl rfl
section
variable {g : zG} {N : Nat} {M : zM}
set_option maxRecDepth 20000 in
set_option maxHeartbeats 2000000 in
theorem kX8_init {b : Int} (hO : zOb N b 8)   : zK g yX8_init xX8_init [zr b] N M (fun w N' M' => w = none ∧ N' = N ∧ M' = zU (zU M b 0 0) b 2 1) := by
  refine zK_of (ls0 := [zr b]) (by decide) rfl (by decide) rfl (Nat.le_of_ble_eq_true rfl) ?_
  refine zV_aload_n (pc := 0) (i := 0) dX8_init_0 rfl rfl ?_
  refine zV_obj (pc := 1) dX8_init_1 klX8_3 obi obc hO.1 ⟨by decide, by decide⟩ (by decide) ?_
  refine zV_aload_n (pc := 4) (i := 0) dX8_init_4 rfl rfl ?_
  refine zV_iconst (pc := 5) dX8_init_5 ?_
  refine zV_put (pc := 6) (j := 0) dX8_init_6 flX8_9 rfl (zOb_mo hO (by omega)) rfl trivial ?_
  refine zV_aload_n (pc := 9) (i := 0) dX8_init_9 rfl rfl ?_
  refine zV_iconst (pc := 10) dX8_init_10 ?_
  refine zV_put (pc := 11) (j := 2) dX8_init_11 flX8_15 rfl (zOb_mo hO (by omega)) rfl trivial ?_
  refine zV_vret (pc := 14) dX8_init_14 trivial ⟨Nat.le_of_ble_eq_true rfl, Nat.le_of_ble_eq_true rfl⟩ ?_
  exact ⟨rfl, rfl, rfl⟩
set_option maxRecDepth 20000 in
set_option maxHeartbeats 2000000 in
theorem kX2_init {b : Int} (hO : zOb N b 2)   : zK g yX2_init xX2_init [zr b] N M (fun w N' M' => w = none ∧ N' = N ∧ M' = M) := by
  refine zK_of (ls0 := [zr b]) (by decide) rfl (by decide) rfl (Nat.le_of_ble_eq_true rfl) ?_
  refine zV_aload_n (pc := 0) (i := 0) dX2_init_0 rfl rfl ?_
  refine zV_obj (pc := 1) dX2_init_1 klX2_1 obi obc hO.1 ⟨by decide, by decide⟩ (by decide) ?_
  refine zV_vret (pc := 4) dX2_init_4 trivial ⟨Nat.le_of_ble_eq_true rfl, Nat.le_of_ble_eq_true rfl⟩ ?_
  exact ⟨rfl, rfl, rfl⟩
set_option maxRecDepth 20000 in
set_option maxHeartbeats 2000000 in
theorem kX3_init {b : Int} (hO : zOb N b 3) (h1 : zsh N = (1, 0, 160)) (hN : N + 1 < 1000000) : zK g yX3_init xX3_init [zr b] N M (fun w N' M' => w = none ∧ N' = N + 1 ∧ M' = zU (zNw M N (fun _ => 0)) b 0 N) := by
  refine zK_of (ls0 := [zr b]) (by decide) rfl (by decide) rfl (Nat.le_of_ble_eq_true rfl) ?_
  refine zV_aload_n (pc := 0) (i := 0) dX3_init_0 rfl rfl ?_
  refine zV_obj (pc := 1) dX3_init_1 klX3_3 obi obc hO.1 ⟨by decide, by decide⟩ (by decide) ?_
  refine zV_aload_n (pc := 4) (i := 0) dX3_init_4 rfl rfl ?_
  refine zV_sipush (pc := 5) dX3_init_5 (by decide) ?_
  refine zV_newa (pc := 8) dX3_init_8 rfl ac_int (by decide) rfl (by decide) h1 (by omega) ⟨Nat.le_of_ble_eq_true rfl, Nat.le_of_ble_eq_true rfl⟩ ?_
  refine zV_putF (pc := 10) (j := 0) dX3_init_10 flX3_9 rfl rfl rfl (zOb_mo hO (by omega)) rfl trivial ?_
  refine zV_vret (pc := 13) dX3_init_13 trivial ⟨Nat.le_of_ble_eq_true rfl, Nat.le_of_ble_eq_true rfl⟩ ?_
  exact ⟨rfl, rfl, rfl⟩
set_option maxRecDepth 20000 in
set_option maxHeartbeats 2000000 in
theorem kX7_init {b : Int} (hO : zOb N b 7) (h1 : zsh N = (1, 0, 160)) (h2 : zsh (N + 1) = (1, 0, 3)) (hN : N + 2 < 1000000) : zK g yX7_init xX7_init [zr b] N M (fun w N' M' => w = none ∧ N' = N + 2 ∧ M' = zU (zNw (zU (zNw M N (fun _ => 0)) b 0 N) ((N + 1 : Nat) : Int) (fun _ => 0)) b 1 ((N + 1 : Nat) : Int)) := by
  refine zK_of (ls0 := [zr b]) (by decide) rfl (by decide) rfl (Nat.le_of_ble_eq_true rfl) ?_
  refine zV_aload_n (pc := 0) (i := 0) dX7_init_0 rfl rfl ?_
  refine zV_obj (pc := 1) dX7_init_1 klX7_3 obi obc hO.1 ⟨by decide, by decide⟩ (by decide) ?_
  refine zV_aload_n (pc := 4) (i := 0) dX7_init_4 rfl rfl ?_
  refine zV_sipush (pc := 5) dX7_init_5 (by decide) ?_
  refine zV_newa (pc := 8) dX7_init_8 rfl ac_int (by decide) rfl (by decide) h1 (by omega) ⟨Nat.le_of_ble_eq_true rfl, Nat.le_of_ble_eq_true rfl⟩ ?_
  refine zV_putF (pc := 10) (j := 0) dX7_init_10 flX7_9 rfl rfl rfl (zOb_mo hO (by omega)) rfl trivial ?_
  refine zV_aload_n (pc := 13) (i := 0) dX7_init_13 rfl rfl ?_
  refine zV_iconst (pc := 14) dX7_init_14 ?_
  refine zV_newa (pc := 15) dX7_init_15 rfl ac_int (by decide) rfl (by decide) h2 (by omega) ⟨Nat.le_of_ble_eq_true rfl, Nat.le_of_ble_eq_true rfl⟩ ?_
  refine zV_putF (pc := 17) (j := 1) dX7_init_17 flX7_15 rfl rfl rfl (zOb_mo hO (by omega)) rfl trivial ?_
  refine zV_vret (pc := 20) dX7_init_20 trivial ⟨Nat.le_of_ble_eq_true rfl, Nat.le_of_ble_eq_true rfl⟩ ?_
  exact ⟨rfl, rfl, rfl⟩
set_option maxRecDepth 20000 in
set_option maxHeartbeats 2000000 in
theorem kX1_init {b : Int} (hO : zOb N b 1) (h1 : zsh N = (1, 0, 20)) (h2 : zsh (N + 1) = (1, 1, 400)) (hN : N + 2 < 1000000) : zK g yX1_init xX1_init [zr b] N M (fun w N' M' => w = none ∧ N' = N + 2 ∧ M' = zU (zNw (zU (zNw M N (fun _ => 0)) b 0 N) ((N + 1 : Nat) : Int) (fun _ => 0)) b 4 ((N + 1 : Nat) : Int)) := by
  refine zK_of (ls0 := [zr b]) (by decide) rfl (by decide) rfl (Nat.le_of_ble_eq_true rfl) ?_
  refine zV_aload_n (pc := 0) (i := 0) dX1_init_0 rfl rfl ?_
  refine zV_obj (pc := 1) dX1_init_1 klX1_3 obi obc hO.1 ⟨by decide, by decide⟩ (by decide) ?_
  refine zV_aload_n (pc := 4) (i := 0) dX1_init_4 rfl rfl ?_
  refine zV_bipush (pc := 5) dX1_init_5 (by decide) ?_
  refine zV_newa (pc := 7) dX1_init_7 rfl ac_int (by decide) rfl (by decide) h1 (by omega) ⟨Nat.le_of_ble_eq_true rfl, Nat.le_of_ble_eq_true rfl⟩ ?_
  refine zV_putF (pc := 9) (j := 0) dX1_init_9 flX1_9 rfl rfl rfl (zOb_mo hO (by omega)) rfl trivial ?_
  refine zV_aload_n (pc := 12) (i := 0) dX1_init_12 rfl rfl ?_
  refine zV_sipush (pc := 13) dX1_init_13 (by decide) ?_
  refine zV_newa (pc := 16) dX1_init_16 rfl ac_boolean (by decide) rfl (by decide) h2 (by omega) ⟨Nat.le_of_ble_eq_true rfl, Nat.le_of_ble_eq_true rfl⟩ ?_
  refine zV_putF (pc := 18) (j := 4) dX1_init_18 flX1_15 rfl rfl rfl (zOb_mo hO (by omega)) rfl trivial ?_
  refine zV_vret (pc := 21) dX1_init_21 trivial ⟨Nat.le_of_ble_eq_true rfl, Nat.le_of_ble_eq_true rfl⟩ ?_
  exact ⟨rfl, rfl, rfl⟩
set_option maxRecDepth 20000 in
set_option maxHeartbeats 2000000 in
theorem kX4_init {b : Int} (hO : zOb N b 4) (h1 : zsh N = (1, 0, 6)) (h2 : zsh (N + 1) = (1, 0, 31)) (hN : N + 2 < 1000000) : zK g yX4_init xX4_init [zr b] N M (fun w N' M' => w = none ∧ N' = N + 2 ∧ M' = zU (zNw (zU (zNw M N (fun _ => 0)) b 0 N) ((N + 1 : Nat) : Int) (fun _ => 0)) b 1 ((N + 1 : Nat) : Int)) := by
  refine zK_of (ls0 := [zr b]) (by decide) rfl (by decide) rfl (Nat.le_of_ble_eq_true rfl) ?_
  refine zV_aload_n (pc := 0) (i := 0) dX4_init_0 rfl rfl ?_
  refine zV_obj (pc := 1) dX4_init_1 klX4_3 obi obc hO.1 ⟨by decide, by decide⟩ (by decide) ?_
  refine zV_aload_n (pc := 4) (i := 0) dX4_init_4 rfl rfl ?_
  refine zV_bipush (pc := 5) dX4_init_5 (by decide) ?_
  refine zV_newa (pc := 7) dX4_init_7 rfl ac_int (by decide) rfl (by decide) h1 (by omega) ⟨Nat.le_of_ble_eq_true rfl, Nat.le_of_ble_eq_true rfl⟩ ?_
  refine zV_putF (pc := 9) (j := 0) dX4_init_9 flX4_9 rfl rfl rfl (zOb_mo hO (by omega)) rfl trivial ?_
  refine zV_aload_n (pc := 12) (i := 0) dX4_init_12 rfl rfl ?_
  refine zV_bipush (pc := 13) dX4_init_13 (by decide) ?_
  refine zV_newa (pc := 15) dX4_init_15 rfl ac_int (by decide) rfl (by decide) h2 (by omega) ⟨Nat.le_of_ble_eq_true rfl, Nat.le_of_ble_eq_true rfl⟩ ?_
  refine zV_putF (pc := 17) (j := 1) dX4_init_17 flX4_15 rfl rfl rfl (zOb_mo hO (by omega)) rfl trivial ?_
  refine zV_vret (pc := 20) dX4_init_20 trivial ⟨Nat.le_of_ble_eq_true rfl, Nat.le_of_ble_eq_true rfl⟩ ?_
  exact ⟨rfl, rfl, rfl⟩
set_option maxRecDepth 20000 in
set_option maxHeartbeats 2000000 in
theorem kX6_init {b : Int} (hO : zOb N b 6) (h1 : zsh N = (1, 0, 40)) (hN : N + 1 < 1000000) : zK g yX6_init xX6_init [zr b] N M (fun w N' M' => w = none ∧ N' = N + 1 ∧ M' = zU (zNw (zU M b 0 (-1)) N (fun _ => 0)) b 2 N) := by
  refine zK_of (ls0 := [zr b]) (by decide) rfl (by decide) rfl (Nat.le_of_ble_eq_true rfl) ?_
  refine zV_aload_n (pc := 0) (i := 0) dX6_init_0 rfl rfl ?_
  refine zV_obj (pc := 1) dX6_init_1 klX6_3 obi obc hO.1 ⟨by decide, by decide⟩ (by decide) ?_
  refine zV_aload_n (pc := 4) (i := 0) dX6_init_4 rfl rfl ?_
  refine zV_iconst (pc := 5) dX6_init_5 ?_
  refine zV_put (pc := 6) (j := 0) dX6_init_6 flX6_9 rfl (zOb_mo hO (by omega)) rfl trivial ?_
  refine zV_aload_n (pc := 9) (i := 0) dX6_init_9 rfl rfl ?_
  refine zV_bipush (pc := 10) dX6_init_10 (by decide) ?_
  refine zV_newa (pc := 12) dX6_init_12 rfl ac_int (by decide) rfl (by decide) h1 (by omega) ⟨Nat.le_of_ble_eq_true rfl, Nat.le_of_ble_eq_true rfl⟩ ?_
  refine zV_putF (pc := 14) (j := 2) dX6_init_14 flX6_15 rfl rfl rfl (zOb_mo hO (by omega)) rfl trivial ?_
  refine zV_vret (pc := 17) dX6_init_17 trivial ⟨Nat.le_of_ble_eq_true rfl, Nat.le_of_ble_eq_true rfl⟩ ?_
  exact ⟨rfl, rfl, rfl⟩
end
