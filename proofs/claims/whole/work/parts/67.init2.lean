/-! CONSTRUCTORS of Rota, Almanac, the model (printed by wip/whole/p67.py) -/
section
variable {g : zG} {N : Nat} {M : zM}
def zro1 (M : zM) : zM := zU (zU (zU (zNw (zU (zU (zU (zNw (zU (zU (zU (zNw (zU (zU (zU (zNw (zU (zU (zU (zNw (zU (zU (zU (zNw (zU (zNw M 2 (fun _ => -1)) 1 0 2) 3 (fun j => zdf (zty 8 j.toNat))) 3 0 0) 3 2 1) 2 0 3) 4 (fun j => zdf (zty 8 j.toNat))) 4 0 0) 4 2 1) 2 1 4) 5 (fun j => zdf (zty 8 j.toNat))) 5 0 0) 5 2 1) 2 2 5) 6 (fun j => zdf (zty 8 j.toNat))) 6 0 0) 6 2 1) 2 3 6) 7 (fun j => zdf (zty 8 j.toNat))) 7 0 0) 7 2 1) 2 4 7) 8 (fun j => zdf (zty 8 j.toNat))) 8 0 0) 8 2 1) 2 5 8
set_option maxRecDepth 20000 in
set_option maxHeartbeats 2000000 in
theorem kX5_init1  : zK g yX5_init xX5_init [zr 1] 2 M (fun w N' M' => w = none ∧ N' = 9 ∧ M' = zro1 M) := by
  refine zK_of (ls0 := [zr 1, (3, 0)]) (by decide) rfl (by decide) rfl (Nat.le_of_ble_eq_true rfl) ?_
  refine zV_aload_n (pc := 0) (i := 0) dX5_init_0 rfl rfl ?_
  refine zV_obj (pc := 1) dX5_init_1 klX5_3 obi obc (by decide) ⟨by decide, by decide⟩ (by decide) ?_
  refine zV_aload_n (pc := 4) (i := 0) dX5_init_4 rfl rfl ?_
  refine zV_bipush (pc := 5) dX5_init_5 (by decide) ?_
  refine zV_anew (ci := 8) (pc := 7) dX5_init_7 (by decide) rfl rfl clX5_9 aoX8 rfl (by decide) rfl (by decide) ⟨Nat.le_of_ble_eq_true rfl, Nat.le_of_ble_eq_true rfl⟩ ?_
  refine zV_putF (pc := 10) (j := 0) dX5_init_10 flX5_11 rfl rfl rfl (zOb_of rfl) rfl trivial ?_
  refine zV_iconst (pc := 13) dX5_init_13 ?_
  refine zV_istore_n (pc := 14) (i := 1) dX5_init_14 rfl rfl ?_
  try dsimp only [List.set_cons_succ, List.set_cons_zero]
  refine zV_iload_n (pc := 15) (i := 1) dX5_init_15 rfl rfl ?_
  refine zV_aload_n (pc := 16) (i := 0) dX5_init_16 rfl rfl ?_
  refine zV_get (pc := 17) (j := 0) dX5_init_17 flX5_11 (zOb_of rfl) rfl (show _ = (2 : Int) from rfl) ?_
  refine zV_alen (pc := 20) dX5_init_20 (zAr_of rfl : zAr 3 2 2 6) ?_
  refine zV_icmp_ge (pc := 21) (tgt := 43) dX5_init_21 (by decide) (by omega) (fun c_21 => absurd c_21 (by decide)) (fun c_21 => ?_)
  refine zV_aload_n (pc := 24) (i := 0) dX5_init_24 rfl rfl ?_
  refine zV_get (pc := 25) (j := 0) dX5_init_25 flX5_11 (zOb_of rfl) rfl (show _ = (2 : Int) from rfl) ?_
  refine zV_iload_n (pc := 28) (i := 1) dX5_init_28 rfl rfl ?_
  refine zV_new (ci := 8) (pc := 29) dX5_init_29 (by decide) clX5_9 icX8 ncX8 rfl zht_8 (by decide) ⟨Nat.le_of_ble_eq_true rfl, Nat.le_of_ble_eq_true rfl⟩ ?_
  refine zV_dup (pc := 32) dX5_init_32 (by simp) ?_
  refine zV_iiN (pc := 33) dX5_init_33 klX5_17 mX8_init rfl ⟨by decide, by decide, by decide, by decide⟩ (kX8_init (zOb_of rfl)) (by omega) rfl rfl (Nat.le_of_ble_eq_true rfl) ?_
  rintro w9 N9 M9 ⟨rfl, rfl, rfl⟩
  refine zV_aast (pc := 36) dX5_init_36 (zAr_of rfl : zAr 4 2 2 6) ⟨rfl, rfl, by decide⟩ (by omega) (zOb_of rfl : zOb 4 3 8) ?_
  refine zV_iinc (pc := 37) dX5_init_37 rfl rfl ?_
  try dsimp only [List.set_cons_succ, List.set_cons_zero]
  refine zV_goto (pc := 40) (tgt := 15) dX5_init_40 (by decide) ?_
  refine zV_iload_n (pc := 15) (i := 1) dX5_init_15 rfl rfl ?_
  refine zV_aload_n (pc := 16) (i := 0) dX5_init_16 rfl rfl ?_
  refine zV_get (pc := 17) (j := 0) dX5_init_17 flX5_11 (zOb_of rfl) rfl (show _ = (2 : Int) from rfl) ?_
  refine zV_alen (pc := 20) dX5_init_20 (zAr_of rfl : zAr 4 2 2 6) ?_
  refine zV_icmp_ge (pc := 21) (tgt := 43) dX5_init_21 (by decide) (by omega) (fun c_21 => absurd c_21 (by decide)) (fun c_21 => ?_)
  refine zV_aload_n (pc := 24) (i := 0) dX5_init_24 rfl rfl ?_
  refine zV_get (pc := 25) (j := 0) dX5_init_25 flX5_11 (zOb_of rfl) rfl (show _ = (2 : Int) from rfl) ?_
  refine zV_iload_n (pc := 28) (i := 1) dX5_init_28 rfl rfl ?_
  refine zV_new (ci := 8) (pc := 29) dX5_init_29 (by decide) clX5_9 icX8 ncX8 rfl zht_8 (by decide) ⟨Nat.le_of_ble_eq_true rfl, Nat.le_of_ble_eq_true rfl⟩ ?_
  refine zV_dup (pc := 32) dX5_init_32 (by simp) ?_
  refine zV_iiN (pc := 33) dX5_init_33 klX5_17 mX8_init rfl ⟨by decide, by decide, by decide, by decide⟩ (kX8_init (zOb_of rfl)) (by omega) rfl rfl (Nat.le_of_ble_eq_true rfl) ?_
  rintro w9 N9 M9 ⟨rfl, rfl, rfl⟩
  refine zV_aast (pc := 36) dX5_init_36 (zAr_of rfl : zAr 5 2 2 6) ⟨rfl, rfl, by decide⟩ (by omega) (zOb_of rfl : zOb 5 4 8) ?_
  refine zV_iinc (pc := 37) dX5_init_37 rfl rfl ?_
  try dsimp only [List.set_cons_succ, List.set_cons_zero]
  refine zV_goto (pc := 40) (tgt := 15) dX5_init_40 (by decide) ?_
  refine zV_iload_n (pc := 15) (i := 1) dX5_init_15 rfl rfl ?_
  refine zV_aload_n (pc := 16) (i := 0) dX5_init_16 rfl rfl ?_
  refine zV_get (pc := 17) (j := 0) dX5_init_17 flX5_11 (zOb_of rfl) rfl (show _ = (2 : Int) from rfl) ?_
  refine zV_alen (pc := 20) dX5_init_20 (zAr_of rfl : zAr 5 2 2 6) ?_
  refine zV_icmp_ge (pc := 21) (tgt := 43) dX5_init_21 (by decide) (by omega) (fun c_21 => absurd c_21 (by decide)) (fun c_21 => ?_)
  refine zV_aload_n (pc := 24) (i := 0) dX5_init_24 rfl rfl ?_
  refine zV_get (pc := 25) (j := 0) dX5_init_25 flX5_11 (zOb_of rfl) rfl (show _ = (2 : Int) from rfl) ?_
  refine zV_iload_n (pc := 28) (i := 1) dX5_init_28 rfl rfl ?_
  refine zV_new (ci := 8) (pc := 29) dX5_init_29 (by decide) clX5_9 icX8 ncX8 rfl zht_8 (by decide) ⟨Nat.le_of_ble_eq_true rfl, Nat.le_of_ble_eq_true rfl⟩ ?_
  refine zV_dup (pc := 32) dX5_init_32 (by simp) ?_
  refine zV_iiN (pc := 33) dX5_init_33 klX5_17 mX8_init rfl ⟨by decide, by decide, by decide, by decide⟩ (kX8_init (zOb_of rfl)) (by omega) rfl rfl (Nat.le_of_ble_eq_true rfl) ?_
  rintro w9 N9 M9 ⟨rfl, rfl, rfl⟩
  refine zV_aast (pc := 36) dX5_init_36 (zAr_of rfl : zAr 6 2 2 6) ⟨rfl, rfl, by decide⟩ (by omega) (zOb_of rfl : zOb 6 5 8) ?_
  refine zV_iinc (pc := 37) dX5_init_37 rfl rfl ?_
  try dsimp only [List.set_cons_succ, List.set_cons_zero]
  refine zV_goto (pc := 40) (tgt := 15) dX5_init_40 (by decide) ?_
  refine zV_iload_n (pc := 15) (i := 1) dX5_init_15 rfl rfl ?_
  refine zV_aload_n (pc := 16) (i := 0) dX5_init_16 rfl rfl ?_
  refine zV_get (pc := 17) (j := 0) dX5_init_17 flX5_11 (zOb_of rfl) rfl (show _ = (2 : Int) from rfl) ?_
  refine zV_alen (pc := 20) dX5_init_20 (zAr_of rfl : zAr 6 2 2 6) ?_
  refine zV_icmp_ge (pc := 21) (tgt := 43) dX5_init_21 (by decide) (by omega) (fun c_21 => absurd c_21 (by decide)) (fun c_21 => ?_)
  refine zV_aload_n (pc := 24) (i := 0) dX5_init_24 rfl rfl ?_
  refine zV_get (pc := 25) (j := 0) dX5_init_25 flX5_11 (zOb_of rfl) rfl (show _ = (2 : Int) from rfl) ?_
  refine zV_iload_n (pc := 28) (i := 1) dX5_init_28 rfl rfl ?_
  refine zV_new (ci := 8) (pc := 29) dX5_init_29 (by decide) clX5_9 icX8 ncX8 rfl zht_8 (by decide) ⟨Nat.le_of_ble_eq_true rfl, Nat.le_of_ble_eq_true rfl⟩ ?_
  refine zV_dup (pc := 32) dX5_init_32 (by simp) ?_
  refine zV_iiN (pc := 33) dX5_init_33 klX5_17 mX8_init rfl ⟨by decide, by decide, by decide, by decide⟩ (kX8_init (zOb_of rfl)) (by omega) rfl rfl (Nat.le_of_ble_eq_true rfl) ?_
  rintro w9 N9 M9 ⟨rfl, rfl, rfl⟩
  refine zV_aast (pc := 36) dX5_init_36 (zAr_of rfl : zAr 7 2 2 6) ⟨rfl, rfl, by decide⟩ (by omega) (zOb_of rfl : zOb 7 6 8) ?_
  refine zV_iinc (pc := 37) dX5_init_37 rfl rfl ?_
  try dsimp only [List.set_cons_succ, List.set_cons_zero]
  refine zV_goto (pc := 40) (tgt := 15) dX5_init_40 (by decide) ?_
  refine zV_iload_n (pc := 15) (i := 1) dX5_init_15 rfl rfl ?_
  refine zV_aload_n (pc := 16) (i := 0) dX5_init_16 rfl rfl ?_
  refine zV_get (pc := 17) (j := 0) dX5_init_17 flX5_11 (zOb_of rfl) rfl (show _ = (2 : Int) from rfl) ?_
  refine zV_alen (pc := 20) dX5_init_20 (zAr_of rfl : zAr 7 2 2 6) ?_
  refine zV_icmp_ge (pc := 21) (tgt := 43) dX5_init_21 (by decide) (by omega) (fun c_21 => absurd c_21 (by decide)) (fun c_21 => ?_)
  refine zV_aload_n (pc := 24) (i := 0) dX5_init_24 rfl rfl ?_
  refine zV_get (pc := 25) (j := 0) dX5_init_25 flX5_11 (zOb_of rfl) rfl (show _ = (2 : Int) from rfl) ?_
  refine zV_iload_n (pc := 28) (i := 1) dX5_init_28 rfl rfl ?_
  refine zV_new (ci := 8) (pc := 29) dX5_init_29 (by decide) clX5_9 icX8 ncX8 rfl zht_8 (by decide) ⟨Nat.le_of_ble_eq_true rfl, Nat.le_of_ble_eq_true rfl⟩ ?_
  refine zV_dup (pc := 32) dX5_init_32 (by simp) ?_
  refine zV_iiN (pc := 33) dX5_init_33 klX5_17 mX8_init rfl ⟨by decide, by decide, by decide, by decide⟩ (kX8_init (zOb_of rfl)) (by omega) rfl rfl (Nat.le_of_ble_eq_true rfl) ?_
  rintro w9 N9 M9 ⟨rfl, rfl, rfl⟩
  refine zV_aast (pc := 36) dX5_init_36 (zAr_of rfl : zAr 8 2 2 6) ⟨rfl, rfl, by decide⟩ (by omega) (zOb_of rfl : zOb 8 7 8) ?_
  refine zV_iinc (pc := 37) dX5_init_37 rfl rfl ?_
  try dsimp only [List.set_cons_succ, List.set_cons_zero]
  refine zV_goto (pc := 40) (tgt := 15) dX5_init_40 (by decide) ?_
  refine zV_iload_n (pc := 15) (i := 1) dX5_init_15 rfl rfl ?_
  refine zV_aload_n (pc := 16) (i := 0) dX5_init_16 rfl rfl ?_
  refine zV_get (pc := 17) (j := 0) dX5_init_17 flX5_11 (zOb_of rfl) rfl (show _ = (2 : Int) from rfl) ?_
  refine zV_alen (pc := 20) dX5_init_20 (zAr_of rfl : zAr 8 2 2 6) ?_
  refine zV_icmp_ge (pc := 21) (tgt := 43) dX5_init_21 (by decide) (by omega) (fun c_21 => absurd c_21 (by decide)) (fun c_21 => ?_)
  refine zV_aload_n (pc := 24) (i := 0) dX5_init_24 rfl rfl ?_
  refine zV_get (pc := 25) (j := 0) dX5_init_25 flX5_11 (zOb_of rfl) rfl (show _ = (2 : Int) from rfl) ?_
  refine zV_iload_n (pc := 28) (i := 1) dX5_init_28 rfl rfl ?_
  refine zV_new (ci := 8) (pc := 29) dX5_init_29 (by decide) clX5_9 icX8 ncX8 rfl zht_8 (by decide) ⟨Nat.le_of_ble_eq_true rfl, Nat.le_of_ble_eq_true rfl⟩ ?_
  refine zV_dup (pc := 32) dX5_init_32 (by simp) ?_
  refine zV_iiN (pc := 33) dX5_init_33 klX5_17 mX8_init rfl ⟨by decide, by decide, by decide, by decide⟩ (kX8_init (zOb_of rfl)) (by omega) rfl rfl (Nat.le_of_ble_eq_true rfl) ?_
  rintro w9 N9 M9 ⟨rfl, rfl, rfl⟩
  refine zV_aast (pc := 36) dX5_init_36 (zAr_of rfl : zAr 9 2 2 6) ⟨rfl, rfl, by decide⟩ (by omega) (zOb_of rfl : zOb 9 8 8) ?_
  refine zV_iinc (pc := 37) dX5_init_37 rfl rfl ?_
  try dsimp only [List.set_cons_succ, List.set_cons_zero]
  refine zV_goto (pc := 40) (tgt := 15) dX5_init_40 (by decide) ?_
  refine zV_iload_n (pc := 15) (i := 1) dX5_init_15 rfl rfl ?_
  refine zV_aload_n (pc := 16) (i := 0) dX5_init_16 rfl rfl ?_
  refine zV_get (pc := 17) (j := 0) dX5_init_17 flX5_11 (zOb_of rfl) rfl (show _ = (2 : Int) from rfl) ?_
  refine zV_alen (pc := 20) dX5_init_20 (zAr_of rfl : zAr 9 2 2 6) ?_
  refine zV_icmp_ge (pc := 21) (tgt := 43) dX5_init_21 (by decide) (by omega) (fun c_21 => ?_) (fun c_21 => absurd (by decide) c_21)
  refine zV_vret (pc := 43) dX5_init_43 trivial ⟨Nat.le_of_ble_eq_true rfl, Nat.le_of_ble_eq_true rfl⟩ ?_
  exact ⟨rfl, rfl, rfl⟩
def zro9 (M : zM) : zM := zU (zU (zU (zNw (zU (zU (zU (zNw (zU (zU (zU (zNw (zU (zU (zU (zNw (zU (zU (zU (zNw (zU (zU (zU (zNw (zU (zNw M 10 (fun _ => -1)) 9 0 10) 11 (fun j => zdf (zty 8 j.toNat))) 11 0 0) 11 2 1) 10 0 11) 12 (fun j => zdf (zty 8 j.toNat))) 12 0 0) 12 2 1) 10 1 12) 13 (fun j => zdf (zty 8 j.toNat))) 13 0 0) 13 2 1) 10 2 13) 14 (fun j => zdf (zty 8 j.toNat))) 14 0 0) 14 2 1) 10 3 14) 15 (fun j => zdf (zty 8 j.toNat))) 15 0 0) 15 2 1) 10 4 15) 16 (fun j => zdf (zty 8 j.toNat))) 16 0 0) 16 2 1) 10 5 16
set_option maxRecDepth 20000 in
set_option maxHeartbeats 2000000 in
theorem kX5_init9  : zK g yX5_init xX5_init [zr 9] 10 M (fun w N' M' => w = none ∧ N' = 17 ∧ M' = zro9 M) := by
  refine zK_of (ls0 := [zr 9, (3, 0)]) (by decide) rfl (by decide) rfl (Nat.le_of_ble_eq_true rfl) ?_
  refine zV_aload_n (pc := 0) (i := 0) dX5_init_0 rfl rfl ?_
  refine zV_obj (pc := 1) dX5_init_1 klX5_3 obi obc (by decide) ⟨by decide, by decide⟩ (by decide) ?_
  refine zV_aload_n (pc := 4) (i := 0) dX5_init_4 rfl rfl ?_
  refine zV_bipush (pc := 5) dX5_init_5 (by decide) ?_
  refine zV_anew (ci := 8) (pc := 7) dX5_init_7 (by decide) rfl rfl clX5_9 aoX8 rfl (by decide) rfl (by decide) ⟨Nat.le_of_ble_eq_true rfl, Nat.le_of_ble_eq_true rfl⟩ ?_
  refine zV_putF (pc := 10) (j := 0) dX5_init_10 flX5_11 rfl rfl rfl (zOb_of rfl) rfl trivial ?_
  refine zV_iconst (pc := 13) dX5_init_13 ?_
  refine zV_istore_n (pc := 14) (i := 1) dX5_init_14 rfl rfl ?_
  try dsimp only [List.set_cons_succ, List.set_cons_zero]
  refine zV_iload_n (pc := 15) (i := 1) dX5_init_15 rfl rfl ?_
  refine zV_aload_n (pc := 16) (i := 0) dX5_init_16 rfl rfl ?_
  refine zV_get (pc := 17) (j := 0) dX5_init_17 flX5_11 (zOb_of rfl) rfl (show _ = (10 : Int) from rfl) ?_
  refine zV_alen (pc := 20) dX5_init_20 (zAr_of rfl : zAr 11 10 2 6) ?_
  refine zV_icmp_ge (pc := 21) (tgt := 43) dX5_init_21 (by decide) (by omega) (fun c_21 => absurd c_21 (by decide)) (fun c_21 => ?_)
  refine zV_aload_n (pc := 24) (i := 0) dX5_init_24 rfl rfl ?_
  refine zV_get (pc := 25) (j := 0) dX5_init_25 flX5_11 (zOb_of rfl) rfl (show _ = (10 : Int) from rfl) ?_
  refine zV_iload_n (pc := 28) (i := 1) dX5_init_28 rfl rfl ?_
  refine zV_new (ci := 8) (pc := 29) dX5_init_29 (by decide) clX5_9 icX8 ncX8 rfl zht_8 (by decide) ⟨Nat.le_of_ble_eq_true rfl, Nat.le_of_ble_eq_true rfl⟩ ?_
  refine zV_dup (pc := 32) dX5_init_32 (by simp) ?_
  refine zV_iiN (pc := 33) dX5_init_33 klX5_17 mX8_init rfl ⟨by decide, by decide, by decide, by decide⟩ (kX8_init (zOb_of rfl)) (by omega) rfl rfl (Nat.le_of_ble_eq_true rfl) ?_
  rintro w9 N9 M9 ⟨rfl, rfl, rfl⟩
  refine zV_aast (pc := 36) dX5_init_36 (zAr_of rfl : zAr 12 10 2 6) ⟨rfl, rfl, by decide⟩ (by omega) (zOb_of rfl : zOb 12 11 8) ?_
  refine zV_iinc (pc := 37) dX5_init_37 rfl rfl ?_
  try dsimp only [List.set_cons_succ, List.set_cons_zero]
  refine zV_goto (pc := 40) (tgt := 15) dX5_init_40 (by decide) ?_
  refine zV_iload_n (pc := 15) (i := 1) dX5_init_15 rfl rfl ?_
  refine zV_aload_n (pc := 16) (i := 0) dX5_init_16 rfl rfl ?_
  refine zV_get (pc := 17) (j := 0) dX5_init_17 flX5_11 (zOb_of rfl) rfl (show _ = (10 : Int) from rfl) ?_
  refine zV_alen (pc := 20) dX5_init_20 (zAr_of rfl : zAr 12 10 2 6) ?_
  refine zV_icmp_ge (pc := 21) (tgt := 43) dX5_init_21 (by decide) (by omega) (fun c_21 => absurd c_21 (by decide)) (fun c_21 => ?_)
  refine zV_aload_n (pc := 24) (i := 0) dX5_init_24 rfl rfl ?_
  refine zV_get (pc := 25) (j := 0) dX5_init_25 flX5_11 (zOb_of rfl) rfl (show _ = (10 : Int) from rfl) ?_
  refine zV_iload_n (pc := 28) (i := 1) dX5_init_28 rfl rfl ?_
  refine zV_new (ci := 8) (pc := 29) dX5_init_29 (by decide) clX5_9 icX8 ncX8 rfl zht_8 (by decide) ⟨Nat.le_of_ble_eq_true rfl, Nat.le_of_ble_eq_true rfl⟩ ?_
  refine zV_dup (pc := 32) dX5_init_32 (by simp) ?_
  refine zV_iiN (pc := 33) dX5_init_33 klX5_17 mX8_init rfl ⟨by decide, by decide, by decide, by decide⟩ (kX8_init (zOb_of rfl)) (by omega) rfl rfl (Nat.le_of_ble_eq_true rfl) ?_
  rintro w9 N9 M9 ⟨rfl, rfl, rfl⟩
  refine zV_aast (pc := 36) dX5_init_36 (zAr_of rfl : zAr 13 10 2 6) ⟨rfl, rfl, by decide⟩ (by omega) (zOb_of rfl : zOb 13 12 8) ?_
  refine zV_iinc (pc := 37) dX5_init_37 rfl rfl ?_
  try dsimp only [List.set_cons_succ, List.set_cons_zero]
  refine zV_goto (pc := 40) (tgt := 15) dX5_init_40 (by decide) ?_
  refine zV_iload_n (pc := 15) (i := 1) dX5_init_15 rfl rfl ?_
  refine zV_aload_n (pc := 16) (i := 0) dX5_init_16 rfl rfl ?_
  refine zV_get (pc := 17) (j := 0) dX5_init_17 flX5_11 (zOb_of rfl) rfl (show _ = (10 : Int) from rfl) ?_
  refine zV_alen (pc := 20) dX5_init_20 (zAr_of rfl : zAr 13 10 2 6) ?_
  refine zV_icmp_ge (pc := 21) (tgt := 43) dX5_init_21 (by decide) (by omega) (fun c_21 => absurd c_21 (by decide)) (fun c_21 => ?_)
  refine zV_aload_n (pc := 24) (i := 0) dX5_init_24 rfl rfl ?_
  refine zV_get (pc := 25) (j := 0) dX5_init_25 flX5_11 (zOb_of rfl) rfl (show _ = (10 : Int) from rfl) ?_
  refine zV_iload_n (pc := 28) (i := 1) dX5_init_28 rfl rfl ?_
  refine zV_new (ci := 8) (pc := 29) dX5_init_29 (by decide) clX5_9 icX8 ncX8 rfl zht_8 (by decide) ⟨Nat.le_of_ble_eq_true rfl, Nat.le_of_ble_eq_true rfl⟩ ?_
  refine zV_dup (pc := 32) dX5_init_32 (by simp) ?_
  refine zV_iiN (pc := 33) dX5_init_33 klX5_17 mX8_init rfl ⟨by decide, by decide, by decide, by decide⟩ (kX8_init (zOb_of rfl)) (by omega) rfl rfl (Nat.le_of_ble_eq_true rfl) ?_
  rintro w9 N9 M9 ⟨rfl, rfl, rfl⟩
  refine zV_aast (pc := 36) dX5_init_36 (zAr_of rfl : zAr 14 10 2 6) ⟨rfl, rfl, by decide⟩ (by omega) (zOb_of rfl : zOb 14 13 8) ?_
  refine zV_iinc (pc := 37) dX5_init_37 rfl rfl ?_
  try dsimp only [List.set_cons_succ, List.set_cons_zero]
  refine zV_goto (pc := 40) (tgt := 15) dX5_init_40 (by decide) ?_
  refine zV_iload_n (pc := 15) (i := 1) dX5_init_15 rfl rfl ?_
  refine zV_aload_n (pc := 16) (i := 0) dX5_init_16 rfl rfl ?_
  refine zV_get (pc := 17) (j := 0) dX5_init_17 flX5_11 (zOb_of rfl) rfl (show _ = (10 : Int) from rfl) ?_
  refine zV_alen (pc := 20) dX5_init_20 (zAr_of rfl : zAr 14 10 2 6) ?_
  refine zV_icmp_ge (pc := 21) (tgt := 43) dX5_init_21 (by decide) (by omega) (fun c_21 => absurd c_21 (by decide)) (fun c_21 => ?_)
  refine zV_aload_n (pc := 24) (i := 0) dX5_init_24 rfl rfl ?_
  refine zV_get (pc := 25) (j := 0) dX5_init_25 flX5_11 (zOb_of rfl) rfl (show _ = (10 : Int) from rfl) ?_
  refine zV_iload_n (pc := 28) (i := 1) dX5_init_28 rfl rfl ?_
  refine zV_new (ci := 8) (pc := 29) dX5_init_29 (by decide) clX5_9 icX8 ncX8 rfl zht_8 (by decide) ⟨Nat.le_of_ble_eq_true rfl, Nat.le_of_ble_eq_true rfl⟩ ?_
  refine zV_dup (pc := 32) dX5_init_32 (by simp) ?_
  refine zV_iiN (pc := 33) dX5_init_33 klX5_17 mX8_init rfl ⟨by decide, by decide, by decide, by decide⟩ (kX8_init (zOb_of rfl)) (by omega) rfl rfl (Nat.le_of_ble_eq_true rfl) ?_
  rintro w9 N9 M9 ⟨rfl, rfl, rfl⟩
  refine zV_aast (pc := 36) dX5_init_36 (zAr_of rfl : zAr 15 10 2 6) ⟨rfl, rfl, by decide⟩ (by omega) (zOb_of rfl : zOb 15 14 8) ?_
  refine zV_iinc (pc := 37) dX5_init_37 rfl rfl ?_
  try dsimp only [List.set_cons_succ, List.set_cons_zero]
  refine zV_goto (pc := 40) (tgt := 15) dX5_init_40 (by decide) ?_
  refine zV_iload_n (pc := 15) (i := 1) dX5_init_15 rfl rfl ?_
  refine zV_aload_n (pc := 16) (i := 0) dX5_init_16 rfl rfl ?_
  refine zV_get (pc := 17) (j := 0) dX5_init_17 flX5_11 (zOb_of rfl) rfl (show _ = (10 : Int) from rfl) ?_
  refine zV_alen (pc := 20) dX5_init_20 (zAr_of rfl : zAr 15 10 2 6) ?_
  refine zV_icmp_ge (pc := 21) (tgt := 43) dX5_init_21 (by decide) (by omega) (fun c_21 => absurd c_21 (by decide)) (fun c_21 => ?_)
  refine zV_aload_n (pc := 24) (i := 0) dX5_init_24 rfl rfl ?_
  refine zV_get (pc := 25) (j := 0) dX5_init_25 flX5_11 (zOb_of rfl) rfl (show _ = (10 : Int) from rfl) ?_
  refine zV_iload_n (pc := 28) (i := 1) dX5_init_28 rfl rfl ?_
  refine zV_new (ci := 8) (pc := 29) dX5_init_29 (by decide) clX5_9 icX8 ncX8 rfl zht_8 (by decide) ⟨Nat.le_of_ble_eq_true rfl, Nat.le_of_ble_eq_true rfl⟩ ?_
  refine zV_dup (pc := 32) dX5_init_32 (by simp) ?_
  refine zV_iiN (pc := 33) dX5_init_33 klX5_17 mX8_init rfl ⟨by decide, by decide, by decide, by decide⟩ (kX8_init (zOb_of rfl)) (by omega) rfl rfl (Nat.le_of_ble_eq_true rfl) ?_
  rintro w9 N9 M9 ⟨rfl, rfl, rfl⟩
  refine zV_aast (pc := 36) dX5_init_36 (zAr_of rfl : zAr 16 10 2 6) ⟨rfl, rfl, by decide⟩ (by omega) (zOb_of rfl : zOb 16 15 8) ?_
  refine zV_iinc (pc := 37) dX5_init_37 rfl rfl ?_
  try dsimp only [List.set_cons_succ, List.set_cons_zero]
  refine zV_goto (pc := 40) (tgt := 15) dX5_init_40 (by decide) ?_
  refine zV_iload_n (pc := 15) (i := 1) dX5_init_15 rfl rfl ?_
  refine zV_aload_n (pc := 16) (i := 0) dX5_init_16 rfl rfl ?_
  refine zV_get (pc := 17) (j := 0) dX5_init_17 flX5_11 (zOb_of rfl) rfl (show _ = (10 : Int) from rfl) ?_
  refine zV_alen (pc := 20) dX5_init_20 (zAr_of rfl : zAr 16 10 2 6) ?_
  refine zV_icmp_ge (pc := 21) (tgt := 43) dX5_init_21 (by decide) (by omega) (fun c_21 => absurd c_21 (by decide)) (fun c_21 => ?_)
  refine zV_aload_n (pc := 24) (i := 0) dX5_init_24 rfl rfl ?_
  refine zV_get (pc := 25) (j := 0) dX5_init_25 flX5_11 (zOb_of rfl) rfl (show _ = (10 : Int) from rfl) ?_
  refine zV_iload_n (pc := 28) (i := 1) dX5_init_28 rfl rfl ?_
  refine zV_new (ci := 8) (pc := 29) dX5_init_29 (by decide) clX5_9 icX8 ncX8 rfl zht_8 (by decide) ⟨Nat.le_of_ble_eq_true rfl, Nat.le_of_ble_eq_true rfl⟩ ?_
  refine zV_dup (pc := 32) dX5_init_32 (by simp) ?_
  refine zV_iiN (pc := 33) dX5_init_33 klX5_17 mX8_init rfl ⟨by decide, by decide, by decide, by decide⟩ (kX8_init (zOb_of rfl)) (by omega) rfl rfl (Nat.le_of_ble_eq_true rfl) ?_
  rintro w9 N9 M9 ⟨rfl, rfl, rfl⟩
  refine zV_aast (pc := 36) dX5_init_36 (zAr_of rfl : zAr 17 10 2 6) ⟨rfl, rfl, by decide⟩ (by omega) (zOb_of rfl : zOb 17 16 8) ?_
  refine zV_iinc (pc := 37) dX5_init_37 rfl rfl ?_
  try dsimp only [List.set_cons_succ, List.set_cons_zero]
  refine zV_goto (pc := 40) (tgt := 15) dX5_init_40 (by decide) ?_
  refine zV_iload_n (pc := 15) (i := 1) dX5_init_15 rfl rfl ?_
  refine zV_aload_n (pc := 16) (i := 0) dX5_init_16 rfl rfl ?_
  refine zV_get (pc := 17) (j := 0) dX5_init_17 flX5_11 (zOb_of rfl) rfl (show _ = (10 : Int) from rfl) ?_
  refine zV_alen (pc := 20) dX5_init_20 (zAr_of rfl : zAr 17 10 2 6) ?_
  refine zV_icmp_ge (pc := 21) (tgt := 43) dX5_init_21 (by decide) (by omega) (fun c_21 => ?_) (fun c_21 => absurd (by decide) c_21)
  refine zV_vret (pc := 43) dX5_init_43 trivial ⟨Nat.le_of_ble_eq_true rfl, Nat.le_of_ble_eq_true rfl⟩ ?_
  exact ⟨rfl, rfl, rfl⟩
def zal (M : zM) : zM := zU (zU (zU (zNw (zU (zU (zU (zNw (zU (zU (zNw (zU (zNw (zNw M 53 (fun j => zdf (zty 4 j.toNat))) 54 (fun _ => 0)) 53 0 54) 55 (fun _ => 0)) 53 1 55) 52 2 53) 56 (fun j => zdf (zty 8 j.toNat))) 56 0 0) 56 2 1) 52 3 56) 57 (fun _ => 0)) 52 4 57) 52 0 1) 52 1 17
set_option maxRecDepth 20000 in
set_option maxHeartbeats 2000000 in
theorem kX0_init  : zK g yX0_init xX0_init [zr 52, zr 1, zr 17] 53 M (fun w N' M' => w = none ∧ N' = 58 ∧ M' = zal M) := by
  refine zK_of (ls0 := [zr 52, zr 1, zr 17]) (by decide) rfl (by decide) rfl (Nat.le_of_ble_eq_true rfl) ?_
  refine zV_aload_n (pc := 0) (i := 0) dX0_init_0 rfl rfl ?_
  refine zV_obj (pc := 1) dX0_init_1 klX0_3 obi obc (by decide) ⟨by decide, by decide⟩ (by decide) ?_
  refine zV_aload_n (pc := 4) (i := 0) dX0_init_4 rfl rfl ?_
  refine zV_new (ci := 4) (pc := 5) dX0_init_5 (by decide) clX0_9 icX4 ncX4 rfl zht_4 (by decide) ⟨Nat.le_of_ble_eq_true rfl, Nat.le_of_ble_eq_true rfl⟩ ?_
  refine zV_dup (pc := 8) dX0_init_8 (by simp) ?_
  refine zV_iiN (pc := 9) dX0_init_9 klX0_11 mX4_init rfl ⟨by decide, by decide, by decide, by decide⟩ (kX4_init (zOb_of rfl) rfl rfl (by decide)) (by omega) rfl rfl (Nat.le_of_ble_eq_true rfl) ?_
  rintro w9 N9 M9 ⟨rfl, rfl, rfl⟩
  refine zV_putF (pc := 12) (j := 2) dX0_init_12 flX0_12 rfl rfl rfl (zOb_of rfl) rfl trivial ?_
  refine zV_aload_n (pc := 15) (i := 0) dX0_init_15 rfl rfl ?_
  refine zV_new (ci := 8) (pc := 16) dX0_init_16 (by decide) clX0_18 icX8 ncX8 rfl zht_8 (by decide) ⟨Nat.le_of_ble_eq_true rfl, Nat.le_of_ble_eq_true rfl⟩ ?_
  refine zV_dup (pc := 19) dX0_init_19 (by simp) ?_
  refine zV_iiN (pc := 20) dX0_init_20 klX0_20 mX8_init rfl ⟨by decide, by decide, by decide, by decide⟩ (kX8_init (zOb_of rfl)) (by omega) rfl rfl (Nat.le_of_ble_eq_true rfl) ?_
  rintro w9 N9 M9 ⟨rfl, rfl, rfl⟩
  refine zV_putF (pc := 23) (j := 3) dX0_init_23 flX0_21 rfl rfl rfl (zOb_of rfl) rfl trivial ?_
  refine zV_aload_n (pc := 26) (i := 0) dX0_init_26 rfl rfl ?_
  refine zV_sipush (pc := 27) dX0_init_27 (by decide) ?_
  refine zV_newa (pc := 30) dX0_init_30 rfl ac_int (by decide) rfl (by decide) rfl (by decide) ⟨Nat.le_of_ble_eq_true rfl, Nat.le_of_ble_eq_true rfl⟩ ?_
  refine zV_putF (pc := 32) (j := 4) dX0_init_32 flX0_25 rfl rfl rfl (zOb_of rfl) rfl trivial ?_
  refine zV_aload_n (pc := 35) (i := 0) dX0_init_35 rfl rfl ?_
  refine zV_aload_n (pc := 36) (i := 1) dX0_init_36 rfl rfl ?_
  refine zV_putF (pc := 37) (j := 0) dX0_init_37 flX0_29 rfl rfl rfl (zOb_of rfl) rfl trivial ?_
  refine zV_aload_n (pc := 40) (i := 0) dX0_init_40 rfl rfl ?_
  refine zV_aload_n (pc := 41) (i := 2) dX0_init_41 rfl rfl ?_
  refine zV_putF (pc := 42) (j := 1) dX0_init_42 flX0_33 rfl rfl rfl (zOb_of rfl) rfl trivial ?_
  refine zV_vret (pc := 45) dX0_init_45 trivial ⟨Nat.le_of_ble_eq_true rfl, Nat.le_of_ble_eq_true rfl⟩ ?_
  exact ⟨rfl, rfl, rfl⟩
def zsl (M : zM) (x x1 x2 x3 x4 x5 x6 x7 x8 : Int) : zM := zU (zU (zU (zU (zU (zU (zU (zU M 59 x x1) 59 (x + 1) x2) 59 (x + 2) x3) 59 (x + 3) x4) 59 (x + 4) x5) 59 (x + 5) x6) 59 (x + 6) x7) 59 (x + 7) x8
set_option maxRecDepth 20000 in
set_option maxHeartbeats 2000000 in
theorem kX10_spell {x x1 x2 x3 x4 x5 x6 x7 x8 : Int} (hx : 0 ≤ x ∧ x ≤ 900) (hT : M 58 1 = 59) : zK g yX10_spell xX10_spell [zr 58, zi x, zi x1, zi x2, zi x3, zi x4, zi x5, zi x6, zi x7, zi x8] 75 M (zPn 75 (fun M1 => M1 = zsl M x x1 x2 x3 x4 x5 x6 x7 x8)) := by
  refine zK_of (ls0 := [zr 58, zi x, zi x1, zi x2, zi x3, zi x4, zi x5, zi x6, zi x7, zi x8]) (by decide) rfl (by decide) rfl (Nat.le_of_ble_eq_true rfl) ?_
  refine zV_aload_n (pc := 0) (i := 0) dX10_spell_0 rfl rfl ?_
  refine zV_get (pc := 1) (j := 1) dX10_spell_1 flX10_13 (zOb_of rfl) rfl hT ?_
  refine zV_iload_n (pc := 4) (i := 1) dX10_spell_4 rfl rfl ?_
  refine zV_iload_n (pc := 5) (i := 2) dX10_spell_5 rfl rfl ?_
  refine zV_iast (pc := 6) dX10_spell_6 (zAr_of rfl : zAr 75 59 0 960) (by omega) ?_
  refine zV_aload_n (pc := 7) (i := 0) dX10_spell_7 rfl rfl ?_
  refine zV_get (pc := 8) (j := 1) dX10_spell_8 flX10_13 (zOb_of rfl) rfl ((zU_a _ _ _ _ (by decide)).trans hT) ?_
  refine zV_iload_n (pc := 11) (i := 1) dX10_spell_11 rfl rfl ?_
  refine zV_iconst (pc := 12) dX10_spell_12 ?_
  refine zV_iadd (pc := 13) dX10_spell_13 ?_
  refine zV_iload_n (pc := 14) (i := 3) dX10_spell_14 rfl rfl ?_
  refine zV_iast (pc := 15) dX10_spell_15 (zAr_of rfl : zAr 75 59 0 960) (by omega) ?_
  refine zV_aload_n (pc := 16) (i := 0) dX10_spell_16 rfl rfl ?_
  refine zV_get (pc := 17) (j := 1) dX10_spell_17 flX10_13 (zOb_of rfl) rfl ((zU_a _ _ _ _ (by decide)).trans ((zU_a _ _ _ _ (by decide)).trans hT)) ?_
  refine zV_iload_n (pc := 20) (i := 1) dX10_spell_20 rfl rfl ?_
  refine zV_iconst (pc := 21) dX10_spell_21 ?_
  refine zV_iadd (pc := 22) dX10_spell_22 ?_
  refine zV_iload (pc := 23) dX10_spell_23 rfl ?_
  refine zV_iast (pc := 25) dX10_spell_25 (zAr_of rfl : zAr 75 59 0 960) (by omega) ?_
  refine zV_aload_n (pc := 26) (i := 0) dX10_spell_26 rfl rfl ?_
  refine zV_get (pc := 27) (j := 1) dX10_spell_27 flX10_13 (zOb_of rfl) rfl ((zU_a _ _ _ _ (by decide)).trans ((zU_a _ _ _ _ (by decide)).trans ((zU_a _ _ _ _ (by decide)).trans hT))) ?_
  refine zV_iload_n (pc := 30) (i := 1) dX10_spell_30 rfl rfl ?_
  refine zV_iconst (pc := 31) dX10_spell_31 ?_
  refine zV_iadd (pc := 32) dX10_spell_32 ?_
  refine zV_iload (pc := 33) dX10_spell_33 rfl ?_
  refine zV_iast (pc := 35) dX10_spell_35 (zAr_of rfl : zAr 75 59 0 960) (by omega) ?_
  refine zV_aload_n (pc := 36) (i := 0) dX10_spell_36 rfl rfl ?_
  refine zV_get (pc := 37) (j := 1) dX10_spell_37 flX10_13 (zOb_of rfl) rfl ((zU_a _ _ _ _ (by decide)).trans ((zU_a _ _ _ _ (by decide)).trans ((zU_a _ _ _ _ (by decide)).trans ((zU_a _ _ _ _ (by decide)).trans hT)))) ?_
  refine zV_iload_n (pc := 40) (i := 1) dX10_spell_40 rfl rfl ?_
  refine zV_iconst (pc := 41) dX10_spell_41 ?_
  refine zV_iadd (pc := 42) dX10_spell_42 ?_
  refine zV_iload (pc := 43) dX10_spell_43 rfl ?_
  refine zV_iast (pc := 45) dX10_spell_45 (zAr_of rfl : zAr 75 59 0 960) (by omega) ?_
  refine zV_aload_n (pc := 46) (i := 0) dX10_spell_46 rfl rfl ?_
  refine zV_get (pc := 47) (j := 1) dX10_spell_47 flX10_13 (zOb_of rfl) rfl ((zU_a _ _ _ _ (by decide)).trans ((zU_a _ _ _ _ (by decide)).trans ((zU_a _ _ _ _ (by decide)).trans ((zU_a _ _ _ _ (by decide)).trans ((zU_a _ _ _ _ (by decide)).trans hT))))) ?_
  refine zV_iload_n (pc := 50) (i := 1) dX10_spell_50 rfl rfl ?_
  refine zV_iconst (pc := 51) dX10_spell_51 ?_
  refine zV_iadd (pc := 52) dX10_spell_52 ?_
  refine zV_iload (pc := 53) dX10_spell_53 rfl ?_
  refine zV_iast (pc := 55) dX10_spell_55 (zAr_of rfl : zAr 75 59 0 960) (by omega) ?_
  refine zV_aload_n (pc := 56) (i := 0) dX10_spell_56 rfl rfl ?_
  refine zV_get (pc := 57) (j := 1) dX10_spell_57 flX10_13 (zOb_of rfl) rfl ((zU_a _ _ _ _ (by decide)).trans ((zU_a _ _ _ _ (by decide)).trans ((zU_a _ _ _ _ (by decide)).trans ((zU_a _ _ _ _ (by decide)).trans ((zU_a _ _ _ _ (by decide)).trans ((zU_a _ _ _ _ (by decide)).trans hT)))))) ?_
  refine zV_iload_n (pc := 60) (i := 1) dX10_spell_60 rfl rfl ?_
  refine zV_bipush (pc := 61) dX10_spell_61 (by decide) ?_
  refine zV_iadd (pc := 63) dX10_spell_63 ?_
  refine zV_iload (pc := 64) dX10_spell_64 rfl ?_
  refine zV_iast (pc := 66) dX10_spell_66 (zAr_of rfl : zAr 75 59 0 960) (by omega) ?_
  refine zV_aload_n (pc := 67) (i := 0) dX10_spell_67 rfl rfl ?_
  refine zV_get (pc := 68) (j := 1) dX10_spell_68 flX10_13 (zOb_of rfl) rfl ((zU_a _ _ _ _ (by decide)).trans ((zU_a _ _ _ _ (by decide)).trans ((zU_a _ _ _ _ (by decide)).trans ((zU_a _ _ _ _ (by decide)).trans ((zU_a _ _ _ _ (by decide)).trans ((zU_a _ _ _ _ (by decide)).trans ((zU_a _ _ _ _ (by decide)).trans hT))))))) ?_
  refine zV_iload_n (pc := 71) (i := 1) dX10_spell_71 rfl rfl ?_
  refine zV_bipush (pc := 72) dX10_spell_72 (by decide) ?_
  refine zV_iadd (pc := 74) dX10_spell_74 ?_
  refine zV_iload (pc := 75) dX10_spell_75 rfl ?_
  refine zV_iast (pc := 77) dX10_spell_77 (zAr_of rfl : zAr 75 59 0 960) (by omega) ?_
  refine zV_vret (pc := 78) dX10_spell_78 trivial ⟨Nat.zero_le _, Nat.zero_le _⟩ ?_
  exact ⟨rfl, rfl, rfl⟩
end
