/-! THE CLASS: sharesDayWith, join, why, image, back, taken (printed by wip/whole/p23.py) -/
/-- two rounds have a day in common -/
def zshr (p b p' b' : Int) : Prop := (b - b') % zgc p p' = 0
theorem ztm {x y : Int} : x.tmod y = 0 ↔ x % y = 0 := ⟨fun h => Int.emod_eq_zero_of_dvd (Int.dvd_of_tmod_eq_zero h), fun h => Int.tmod_eq_zero_of_dvd (Int.dvd_of_emod_eq_zero h)⟩
theorem ztm_r {x y : Int} (hy : 0 < y) : -y < x.tmod y ∧ x.tmod y < y := by
  have h1 := Int.tmod_lt_of_pos x hy
  have h2 := Int.tmod_lt_of_pos (-x) hy
  rw [Int.neg_tmod] at h2
  omega
/-- the first two, by the lesser, of n, with q; from a on -/
noncomputable def zwy (q : Int → Int → Prop) (n : Int) : Int → Nat → Int
  | _, 0 => -1
  | a, k + 1 => if zfst (q a) (a + 1) (n - (a + 1)).toNat = -1 then zwy q n (a + 1) k else 10 * a + zfst (q a) (a + 1) (n - (a + 1)).toNat
section
variable {g : zG} {N : Nat} {M : zM}
set_option maxRecDepth 20000 in
set_option maxHeartbeats 2000000 in
theorem kX8_sharesDayWith {a b : Int} (hO : zOb N a 8) (hO2 : zOb N b 8) (hp : 1 ≤ M a 2 ∧ M a 2 ≤ 60) (hb : 0 ≤ M a 3 ∧ M a 3 ≤ 59) (hp2 : 1 ≤ M b 2 ∧ M b 2 ≤ 60) (hb2 : 0 ≤ M b 3 ∧ M b 3 ≤ 59) : zK g yX8_sharesDayWith xX8_sharesDayWith [zr a, zr b] N M (zPp (zi (zb (zshr (M a 2) (M a 3) (M b 2) (M b 3)))) N M) := by
  refine zK_of (ls0 := [zr a, zr b, (3, 0), (3, 0)]) (by decide) rfl (by decide) rfl (Nat.le_of_ble_eq_true rfl) ?_
  refine zV_aload_n (pc := 0) (i := 0) dX8_sharesDayWith_0 rfl rfl ?_
  refine zV_get (pc := 1) (j := 2) dX8_sharesDayWith_1 flX8_15 hO rfl rfl ?_
  refine zV_i2l (pc := 4) dX8_sharesDayWith_4 (by omega) ?_
  refine zV_aload_n (pc := 5) (i := 1) dX8_sharesDayWith_5 rfl rfl ?_
  refine zV_get (pc := 6) (j := 2) dX8_sharesDayWith_6 flX8_15 hO2 rfl rfl ?_
  refine zV_i2l (pc := 9) dX8_sharesDayWith_9 (by omega) ?_
  refine zV_isNp (pc := 10) dX8_sharesDayWith_10 klX8_55 mX9_greatestDivisor rfl ⟨Nat.zero_le _, Nat.zero_le _⟩ (kX9_gd (by omega) (by omega)) rfl rfl (Nat.le_of_ble_eq_true rfl) ?_
  have hg := zgc_p (a := M a 2) (b := M b 2) (Or.inl (by omega))
  have hg2 := zgc_le (a := M a 2) (b := M b 2) (by omega)
  have htm := ztm_r (x := M a 3 - M b 3) hg
  refine zV_lstore_n (pc := 13) (i := 2) dX8_sharesDayWith_13 rfl rfl ?_
  try dsimp only [List.set_cons_succ, List.set_cons_zero]
  refine zV_lload_n (pc := 14) (i := 2) dX8_sharesDayWith_14 rfl rfl ?_
  refine zV_lconst0 (pc := 15) dX8_sharesDayWith_15 ?_
  refine zV_lcmp (pc := 16) dX8_sharesDayWith_16 (by omega) ?_
  refine zV_if_lec (pc := 17) (tgt := 41) dX8_sharesDayWith_17 (by decide) (fun c_17 => absurd c_17 (by omega)) (fun c_17 => ?_)
  refine zV_aload_n (pc := 20) (i := 0) dX8_sharesDayWith_20 rfl rfl ?_
  refine zV_get (pc := 21) (j := 3) dX8_sharesDayWith_21 flX8_21 hO rfl rfl ?_
  refine zV_aload_n (pc := 24) (i := 1) dX8_sharesDayWith_24 rfl rfl ?_
  refine zV_get (pc := 25) (j := 3) dX8_sharesDayWith_25 flX8_21 hO2 rfl rfl ?_
  refine zV_isub (pc := 28) dX8_sharesDayWith_28 ?_
  refine zV_i2l (pc := 29) dX8_sharesDayWith_29 (by omega) ?_
  refine zV_lload_n (pc := 30) (i := 2) dX8_sharesDayWith_30 rfl rfl ?_
  refine zV_lrem (pc := 31) dX8_sharesDayWith_31 (by omega) (by omega) ?_
  refine zV_lconst0 (pc := 32) dX8_sharesDayWith_32 ?_
  refine zV_lcmp (pc := 33) dX8_sharesDayWith_33 (by omega) ?_
  refine zV_if_nec (pc := 34) (tgt := 41) dX8_sharesDayWith_34 (by decide) (fun c_34 => ?_) (fun c_34 => ?_)
  · refine zV_iconst (pc := 41) dX8_sharesDayWith_41 ?_
    refine zV_iret (pc := 42) dX8_sharesDayWith_42 (by first | exact zok_b1 | exact zok_b0 | exact zok_b) ⟨Nat.zero_le _, Nat.zero_le _⟩ ?_
    first
      | exact zPt (ztm.mp c_34)
      | exact zPf (fun q => c_34 (ztm.mpr q))
  · refine zV_iconst (pc := 37) dX8_sharesDayWith_37 ?_
    refine zV_goto (pc := 38) (tgt := 42) dX8_sharesDayWith_38 (by decide) ?_
    refine zV_iret (pc := 42) dX8_sharesDayWith_42 (by first | exact zok_b1 | exact zok_b0 | exact zok_b) ⟨Nat.zero_le _, Nat.zero_le _⟩ ?_
    first
      | exact zPt (ztm.mp c_34)
      | exact zPf (fun q => c_34 (ztm.mpr q))
set_option maxRecDepth 20000 in
set_option maxHeartbeats 2000000 in
theorem kX9_joL (hR : zRo M) {i j : Int} (hi : 0 ≤ i ∧ i < M 1 1) (hj : 0 ≤ j ∧ j < M 1 1) (hij : i ≠ j) : ∀ (k : Nat) (s : Int) (M1 : zM), s + k = 60 → 0 ≤ s → zFr zSc M M1 → zfst (fun s => zshr (zTc M i 2) ((zTc M i 3 + s) % 60) (zTc M j 2) (zTc M j 3)) 0 60 = zfst (fun s => zshr (zTc M i 2) ((zTc M i 3 + s) % 60) (zTc M j 2) (zTc M j 3)) s k → zV g xX9_join (zPq (zi (zfst (fun s => zshr (zTc M i 2) ((zTc M i 3 + s) % 60) (zTc M j 2) (zTc M j 3)) 0 60)) 75 (fun M1 => zFr zSc M M1)) 32 [zr 0, zi i, zi j, zi s] [] 75 M1 0 0 := by
  intro k
  induction k with
  | zero =>
    intro s M1 h0 h1 h2 h3
    obtain ⟨hS, hW, hU, hh⟩ := id hR
    have hn := hW.1
    have hR1 := hR.fr h2
    have hA1 := zAg.of h2
    have ti := hW.2 i hi.1 hi.2
    have tj := hW.2 j hj.1 hj.2
    unfold zTh at ti tj
    have e3 := hA1.2 i 3 (by omega) (by omega)
    have e2 := hA1.2 i 2 (by omega) (by omega)
    refine zV_iload_n (pc := 32) (i := 3) dX9_join_32 rfl rfl ?_
    refine zV_bipush (pc := 33) dX9_join_33 (by decide) ?_
    refine zV_icmp_ge (pc := 35) (tgt := 82) dX9_join_35 (by decide) (by omega) (fun c_35 => ?_) (fun c_35 => absurd (by omega) c_35)
    refine zV_iconst (pc := 82) dX9_join_82 ?_
    refine zV_iret (pc := 83) dX9_join_83 trivial ⟨Nat.zero_le _, Nat.zero_le _⟩ ?_
    exact ⟨by rw [h3]; rfl, rfl, h2⟩
  | succ k ih =>
    intro s M1 h0 h1 h2 h3
    obtain ⟨hS, hW, hU, hh⟩ := id hR
    have hn := hW.1
    have hR1 := hR.fr h2
    have hA1 := zAg.of h2
    have ti := hW.2 i hi.1 hi.2
    have tj := hW.2 j hj.1 hj.2
    unfold zTh at ti tj
    have e3 := hA1.2 i 3 (by omega) (by omega)
    have e2 := hA1.2 i 2 (by omega) (by omega)
    refine zV_iload_n (pc := 32) (i := 3) dX9_join_32 rfl rfl ?_
    refine zV_bipush (pc := 33) dX9_join_33 (by decide) ?_
    refine zV_icmp_ge (pc := 35) (tgt := 82) dX9_join_35 (by decide) (by omega) (fun c_35 => absurd c_35 (by omega)) (fun c_35 => ?_)
    refine zV_aload_n (pc := 38) (i := 0) dX9_join_38 rfl rfl ?_
    refine zV_get (pc := 39) (j := 9) dX9_join_39 flX9_49 (zOb_of rfl) rfl hR1.1.1.e0_9 ?_
    refine zV_aload_n (pc := 42) (i := 0) dX9_join_42 rfl rfl ?_
    refine zV_get (pc := 43) (j := 0) dX9_join_43 flX9_12 (zOb_of rfl) rfl hR1.1.1.e0_0 ?_
    refine zV_get (pc := 46) (j := 0) dX9_join_46 flX9_108 (zOb_of rfl) rfl hR1.1.1.e1_0 ?_
    refine zV_iload_n (pc := 49) (i := 1) dX9_join_49 rfl rfl ?_
    refine zV_aald (pc := 50) dX9_join_50 (zAr_of rfl : zAr 75 2 2 6) ⟨rfl, rfl⟩ (by omega) (hR1.1.1.th (by omega)) ?_
    refine zV_iload_n (pc := 51) (i := 3) dX9_join_51 rfl rfl ?_
    refine zV_ivn (pc := 52) (ci := 8) dX9_join_52 klX9_221 mX8_becomeShifted ⟨by decide, rfl⟩ rfl ⟨Nat.zero_le _, Nat.zero_le _⟩ (kX8_becomeShifted (a := 24) (b := 3 + i) (zOb_of rfl) (zOb_th (by omega)) (by omega) (by rw [e3]; exact ti.2.2.2) (by omega)) (zOb_of rfl) rfl rfl (Nat.le_of_ble_eq_true rfl) (fun M2 q => ?_)
    obtain ⟨q0, q1, q2, q3, q4⟩ := q
    have f2 : zFr zSc M M2 := h2.tr (q4.mono (fun a j e => by unfold zSc; omega))
    have hR2 := hR.fr f2
    have hA2 := zAg.of f2
    have u3 := hA2.2 j 3 (by omega) (by omega)
    have u2 := hA2.2 j 2 (by omega) (by omega)
    rw [e2] at q2
    rw [e3] at q3
    refine zV_aload_n (pc := 55) (i := 0) dX9_join_55 rfl rfl ?_
    refine zV_get (pc := 56) (j := 9) dX9_join_56 flX9_49 (zOb_of rfl) rfl hR2.1.1.e0_9 ?_
    refine zV_aload_n (pc := 59) (i := 0) dX9_join_59 rfl rfl ?_
    refine zV_get (pc := 60) (j := 0) dX9_join_60 flX9_12 (zOb_of rfl) rfl hR2.1.1.e0_0 ?_
    refine zV_get (pc := 63) (j := 0) dX9_join_63 flX9_108 (zOb_of rfl) rfl hR2.1.1.e1_0 ?_
    refine zV_iload_n (pc := 66) (i := 2) dX9_join_66 rfl rfl ?_
    refine zV_aald (pc := 67) dX9_join_67 (zAr_of rfl : zAr 75 2 2 6) ⟨rfl, rfl⟩ (by omega) (hR2.1.1.th (by omega)) ?_
    refine zV_ivp (pc := 68) (ci := 8) dX9_join_68 klX9_205 mX8_sharesDayWith ⟨by decide, rfl⟩ rfl ⟨Nat.zero_le _, Nat.zero_le _⟩ (kX8_sharesDayWith (a := 24) (b := 3 + j) (zOb_of rfl) (zOb_th (by omega)) (by rw [q2]; exact ti.2.2.1) (by rw [q3]; omega) (by rw [u2]; exact tj.2.2.1) (by rw [u3]; exact tj.2.2.2)) (zOb_of rfl) rfl rfl (Nat.le_of_ble_eq_true rfl) ?_
    rw [q2, q3, u2, u3]
    refine zV_if_eqb (pc := 71) (tgt := 76) dX9_join_71 (by decide) (fun c_71 => ?_) (fun c_71 => ?_)
    · refine zV_iinc (pc := 76) dX9_join_76 rfl rfl ?_
      try dsimp only [List.set_cons_succ, List.set_cons_zero]
      refine zV_goto (pc := 79) (tgt := 32) dX9_join_79 (by decide) ?_
      exact ih (s + 1) M2 (by omega) (by omega) f2 (by rw [h3, zfst_f (q := (fun s => zshr (zTc M i 2) ((zTc M i 3 + s) % 60) (zTc M j 2) (zTc M j 3))) c_71])
    · refine zV_iload_n (pc := 74) (i := 3) dX9_join_74 rfl rfl ?_
      refine zV_iret (pc := 75) dX9_join_75 trivial ⟨Nat.zero_le _, Nat.zero_le _⟩ ?_
      exact ⟨by rw [h3, zfst_t (q := (fun s => zshr (zTc M i 2) ((zTc M i 3 + s) % 60) (zTc M j 2) (zTc M j 3))) c_71], rfl, f2⟩
set_option maxRecDepth 20000 in
set_option maxHeartbeats 2000000 in
theorem kX9_join (hR : zRo M) {i j : Int} (hi : -2147483648 ≤ i ∧ i ≤ 2147483647) (hj : -2147483648 ≤ j ∧ j ≤ 2147483647) : zK g yX9_join xX9_join [zr 0, zi i, zi j] 75 M (zPq (zi (zif ((0 ≤ i ∧ i < M 1 1) ∧ (0 ≤ j ∧ j < M 1 1) ∧ i ≠ j) (zfst (fun s => zshr (zTc M i 2) ((zTc M i 3 + s) % 60) (zTc M j 2) (zTc M j 3)) 0 60) (-2))) 75 (fun M1 => zFr zSc M M1)) := by
  refine zK_of (ls0 := [zr 0, zi i, zi j, (3, 0)]) (by decide) rfl (by decide) rfl (Nat.le_of_ble_eq_true rfl) ?_
  obtain ⟨hS, hW, hU, hh⟩ := id hR
  have hn := hW.1
  refine zV_aload_n (pc := 0) (i := 0) dX9_join_0 rfl rfl ?_
  refine zV_get (pc := 1) (j := 0) dX9_join_1 flX9_12 (zOb_of rfl) rfl hS.e0_0 ?_
  refine zV_iload_n (pc := 4) (i := 1) dX9_join_4 rfl rfl ?_
  refine zV_ivp (pc := 5) (ci := 5) dX9_join_5 klX9_100 mX5_has ⟨by decide, rfl⟩ rfl ⟨Nat.zero_le _, Nat.zero_le _⟩ (kX5_has hS hn (by omega)) (zOb_of rfl) rfl rfl (Nat.le_of_ble_eq_true rfl) ?_
  refine zV_if_eqb (pc := 8) (tgt := 27) dX9_join_8 (by decide) (fun c_8 => ?_) (fun c_8 => ?_)
  · refine zV_bipush (pc := 27) dX9_join_27 (by decide) ?_
    refine zV_iret (pc := 29) dX9_join_29 trivial ⟨Nat.zero_le _, Nat.zero_le _⟩ ?_
    first
      | exact ⟨by rw [zif_f (fun q => c_8 q.1)], rfl, zFr.rf⟩
      | exact ⟨by rw [zif_f (fun q => c_19 q.2.1)], rfl, zFr.rf⟩
      | exact ⟨by rw [zif_f (fun q => q.2.2 c_24)], rfl, zFr.rf⟩
  · refine zV_aload_n (pc := 11) (i := 0) dX9_join_11 rfl rfl ?_
    refine zV_get (pc := 12) (j := 0) dX9_join_12 flX9_12 (zOb_of rfl) rfl hS.e0_0 ?_
    refine zV_iload_n (pc := 15) (i := 2) dX9_join_15 rfl rfl ?_
    refine zV_ivp (pc := 16) (ci := 5) dX9_join_16 klX9_100 mX5_has ⟨by decide, rfl⟩ rfl ⟨Nat.zero_le _, Nat.zero_le _⟩ (kX5_has hS hn (by omega)) (zOb_of rfl) rfl rfl (Nat.le_of_ble_eq_true rfl) ?_
    refine zV_if_eqb (pc := 19) (tgt := 27) dX9_join_19 (by decide) (fun c_19 => ?_) (fun c_19 => ?_)
    · refine zV_bipush (pc := 27) dX9_join_27 (by decide) ?_
      refine zV_iret (pc := 29) dX9_join_29 trivial ⟨Nat.zero_le _, Nat.zero_le _⟩ ?_
      first
        | exact ⟨by rw [zif_f (fun q => c_8 q.1)], rfl, zFr.rf⟩
        | exact ⟨by rw [zif_f (fun q => c_19 q.2.1)], rfl, zFr.rf⟩
        | exact ⟨by rw [zif_f (fun q => q.2.2 c_24)], rfl, zFr.rf⟩
    · refine zV_iload_n (pc := 22) (i := 1) dX9_join_22 rfl rfl ?_
      refine zV_iload_n (pc := 23) (i := 2) dX9_join_23 rfl rfl ?_
      refine zV_icmp_ne (pc := 24) (tgt := 30) dX9_join_24 (by decide) (by omega) (fun c_24 => ?_) (fun c_24 => ?_)
      · refine zV_iconst (pc := 30) dX9_join_30 ?_
        refine zV_istore_n (pc := 31) (i := 3) dX9_join_31 rfl rfl ?_
        try dsimp only [List.set_cons_succ, List.set_cons_zero]
        exact (kX9_joL hR c_8 c_19 c_24 60 0 M (by omega) (by omega) zFr.rf rfl).mono (fun v N9 M9 q => ⟨by rw [zif_t ⟨c_8, c_19, c_24⟩]; exact q.1, q.2⟩)
      · refine zV_bipush (pc := 27) dX9_join_27 (by decide) ?_
        refine zV_iret (pc := 29) dX9_join_29 trivial ⟨Nat.zero_le _, Nat.zero_le _⟩ ?_
        first
          | exact ⟨by rw [zif_f (fun q => c_8 q.1)], rfl, zFr.rf⟩
          | exact ⟨by rw [zif_f (fun q => c_19 q.2.1)], rfl, zFr.rf⟩
          | exact ⟨by rw [zif_f (fun q => q.2.2 c_24)], rfl, zFr.rf⟩
set_option maxRecDepth 20000 in
set_option maxHeartbeats 2000000 in
theorem kX9_neverMeet (hS : zSt M) (hW : zWf M) {a b : Int} (ha : -1 ≤ a ∧ a ≤ 100) (hb : -1 ≤ b ∧ b ≤ 100) : zK g yX9_neverMeet xX9_neverMeet [zr 0, zi a, zi b] 75 M (zPp (zi (zb ((0 ≤ a ∧ a < M 1 1) ∧ (0 ≤ b ∧ b < M 1 1) ∧ ¬ zshr (zTc M a 2) (zTc M a 3) (zTc M b 2) (zTc M b 3)))) 75 M) := by
  refine zK_of (ls0 := [zr 0, zi a, zi b]) (by decide) rfl (by decide) rfl (Nat.le_of_ble_eq_true rfl) ?_
  have hn := hW.1
  refine zV_aload_n (pc := 0) (i := 0) dX9_neverMeet_0 rfl rfl ?_
  refine zV_get (pc := 1) (j := 0) dX9_neverMeet_1 flX9_12 (zOb_of rfl) rfl hS.e0_0 ?_
  refine zV_iload_n (pc := 4) (i := 1) dX9_neverMeet_4 rfl rfl ?_
  refine zV_ivp (pc := 5) (ci := 5) dX9_neverMeet_5 klX9_100 mX5_has ⟨by decide, rfl⟩ rfl ⟨Nat.zero_le _, Nat.zero_le _⟩ (kX5_has hS hn (by omega)) (zOb_of rfl) rfl rfl (Nat.le_of_ble_eq_true rfl) ?_
  refine zV_if_eqb (pc := 8) (tgt := 50) dX9_neverMeet_8 (by decide) (fun c_8 => ?_) (fun c_8 => ?_)
  · refine zV_iconst (pc := 50) dX9_neverMeet_50 ?_
    refine zV_iret (pc := 51) dX9_neverMeet_51 (by first | exact zok_b1 | exact zok_b0 | exact zok_b) ⟨Nat.zero_le _, Nat.zero_le _⟩ ?_
    first
      | exact zPf (fun q => c_8 q.1)
      | exact zPf (fun q => c_19 q.2.1)
      | exact zPf (fun q => q.2.2 c_43)
      | exact zPt ⟨c_8, c_19, c_43⟩
  · refine zV_aload_n (pc := 11) (i := 0) dX9_neverMeet_11 rfl rfl ?_
    refine zV_get (pc := 12) (j := 0) dX9_neverMeet_12 flX9_12 (zOb_of rfl) rfl hS.e0_0 ?_
    refine zV_iload_n (pc := 15) (i := 2) dX9_neverMeet_15 rfl rfl ?_
    refine zV_ivp (pc := 16) (ci := 5) dX9_neverMeet_16 klX9_100 mX5_has ⟨by decide, rfl⟩ rfl ⟨Nat.zero_le _, Nat.zero_le _⟩ (kX5_has hS hn (by omega)) (zOb_of rfl) rfl rfl (Nat.le_of_ble_eq_true rfl) ?_
    refine zV_if_eqb (pc := 19) (tgt := 50) dX9_neverMeet_19 (by decide) (fun c_19 => ?_) (fun c_19 => ?_)
    · refine zV_iconst (pc := 50) dX9_neverMeet_50 ?_
      refine zV_iret (pc := 51) dX9_neverMeet_51 (by first | exact zok_b1 | exact zok_b0 | exact zok_b) ⟨Nat.zero_le _, Nat.zero_le _⟩ ?_
      first
        | exact zPf (fun q => c_8 q.1)
        | exact zPf (fun q => c_19 q.2.1)
        | exact zPf (fun q => q.2.2 c_43)
        | exact zPt ⟨c_8, c_19, c_43⟩
    · refine zV_aload_n (pc := 22) (i := 0) dX9_neverMeet_22 rfl rfl ?_
      refine zV_get (pc := 23) (j := 0) dX9_neverMeet_23 flX9_12 (zOb_of rfl) rfl hS.e0_0 ?_
      refine zV_get (pc := 26) (j := 0) dX9_neverMeet_26 flX9_108 (zOb_of rfl) rfl hS.e1_0 ?_
      refine zV_iload_n (pc := 29) (i := 1) dX9_neverMeet_29 rfl rfl ?_
      refine zV_aald (pc := 30) dX9_neverMeet_30 (zAr_of rfl : zAr 75 2 2 6) ⟨rfl, rfl⟩ (by omega) (hS.th (by omega)) ?_
      refine zV_aload_n (pc := 31) (i := 0) dX9_neverMeet_31 rfl rfl ?_
      refine zV_get (pc := 32) (j := 0) dX9_neverMeet_32 flX9_12 (zOb_of rfl) rfl hS.e0_0 ?_
      refine zV_get (pc := 35) (j := 0) dX9_neverMeet_35 flX9_108 (zOb_of rfl) rfl hS.e1_0 ?_
      refine zV_iload_n (pc := 38) (i := 2) dX9_neverMeet_38 rfl rfl ?_
      refine zV_aald (pc := 39) dX9_neverMeet_39 (zAr_of rfl : zAr 75 2 2 6) ⟨rfl, rfl⟩ (by omega) (hS.th (by omega)) ?_
      refine zV_ivp (pc := 40) (ci := 8) dX9_neverMeet_40 klX9_205 mX8_sharesDayWith ⟨by decide, rfl⟩ rfl ⟨Nat.zero_le _, Nat.zero_le _⟩ (kX8_sharesDayWith (zOb_th (by omega)) (zOb_th (by omega)) (hW.2 a (by omega) (by omega)).2.2.1 (hW.2 a (by omega) (by omega)).2.2.2 (hW.2 b (by omega) (by omega)).2.2.1 (hW.2 b (by omega) (by omega)).2.2.2) (zOb_th (by omega)) rfl rfl (Nat.le_of_ble_eq_true rfl) ?_
      refine zV_if_neb (pc := 43) (tgt := 50) dX9_neverMeet_43 (by decide) (fun c_43 => ?_) (fun c_43 => ?_)
      · refine zV_iconst (pc := 50) dX9_neverMeet_50 ?_
        refine zV_iret (pc := 51) dX9_neverMeet_51 (by first | exact zok_b1 | exact zok_b0 | exact zok_b) ⟨Nat.zero_le _, Nat.zero_le _⟩ ?_
        first
          | exact zPf (fun q => c_8 q.1)
          | exact zPf (fun q => c_19 q.2.1)
          | exact zPf (fun q => q.2.2 c_43)
          | exact zPt ⟨c_8, c_19, c_43⟩
      · refine zV_iconst (pc := 46) dX9_neverMeet_46 ?_
        refine zV_goto (pc := 47) (tgt := 51) dX9_neverMeet_47 (by decide) ?_
        refine zV_iret (pc := 51) dX9_neverMeet_51 (by first | exact zok_b1 | exact zok_b0 | exact zok_b) ⟨Nat.zero_le _, Nat.zero_le _⟩ ?_
        first
          | exact zPf (fun q => c_8 q.1)
          | exact zPf (fun q => c_19 q.2.1)
          | exact zPf (fun q => q.2.2 c_43)
          | exact zPt ⟨c_8, c_19, c_43⟩
set_option maxRecDepth 20000 in
set_option maxHeartbeats 2000000 in
theorem kX9_whI (hR : zRo M) {s : Int} (hs : 0 ≤ s ∧ s ≤ 2147483647) {z9 a : Int} (ha : 0 ≤ a ∧ a < 6) (hX : ∀ w3 : zv, zfst (fun b => (zbt s a ∧ zbt s b) ∧ ¬ zshr (zTc M a 2) (zTc M a 3) (zTc M b 2) (zTc M b 3)) (a + 1) (M 1 1 - (a + 1)).toNat = -1 → zV g xX9_why (zPp (zi z9) 75 M) 70 [zr 0, zi s, zi a, w3] [] 75 M 0 0) (hY : ∀ b : Int, a < b → zfst (fun b => (zbt s a ∧ zbt s b) ∧ ¬ zshr (zTc M a 2) (zTc M a 3) (zTc M b 2) (zTc M b 3)) (a + 1) (M 1 1 - (a + 1)).toNat = b → z9 = 10 * a + b) : ∀ (k : Nat) (b : Int), b + k = 6 → a < b → zfst (fun b => (zbt s a ∧ zbt s b) ∧ ¬ zshr (zTc M a 2) (zTc M a 3) (zTc M b 2) (zTc M b 3)) (a + 1) (M 1 1 - (a + 1)).toNat = zfst (fun b => (zbt s a ∧ zbt s b) ∧ ¬ zshr (zTc M a 2) (zTc M a 3) (zTc M b 2) (zTc M b 3)) b (M 1 1 - b).toNat → zV g xX9_why (zPp (zi z9) 75 M) 26 [zr 0, zi s, zi a, zi b] [] 75 M 0 0 := by
  intro k
  induction k with
  | zero =>
    intro b h0 h1 h3
    obtain ⟨hS, hW, hU, hh⟩ := id hR
    have hn := hW.1
    refine zV_iload_n (pc := 26) (i := 3) dX9_why_26 rfl rfl ?_
    refine zV_bipush (pc := 27) dX9_why_27 (by decide) ?_
    refine zV_icmp_ge (pc := 29) (tgt := 70) dX9_why_29 (by decide) (by omega) (fun c_29 => ?_) (fun c_29 => absurd (by omega) c_29)
    exact hX (zi b) (by rw [h3, show (M 1 1 - b).toNat = 0 by omega]; rfl)
  | succ k ih =>
    intro b h0 h1 h3
    obtain ⟨hS, hW, hU, hh⟩ := id hR
    have hn := hW.1
    refine zV_iload_n (pc := 26) (i := 3) dX9_why_26 rfl rfl ?_
    refine zV_bipush (pc := 27) dX9_why_27 (by decide) ?_
    refine zV_icmp_ge (pc := 29) (tgt := 70) dX9_why_29 (by decide) (by omega) (fun c_29 => absurd c_29 (by omega)) (fun c_29 => ?_)
    refine zV_iload_n (pc := 32) (i := 1) dX9_why_32 rfl rfl ?_
    refine zV_iload_n (pc := 33) (i := 2) dX9_why_33 rfl rfl ?_
    refine zV_isp (pc := 34) dX9_why_34 klX9_195 mX9_hasBit rfl ⟨Nat.zero_le _, Nat.zero_le _⟩ (kX9_hasBit hs (by omega)) rfl rfl (Nat.le_of_ble_eq_true rfl) ?_
    refine zV_if_eqb (pc := 37) (tgt := 64) dX9_why_37 (by decide) (fun c_37 => ?_) (fun c_37 => ?_)
    · refine zV_iinc (pc := 64) dX9_why_64 rfl rfl ?_
      dsimp only [List.set_cons_succ, List.set_cons_zero]
      refine zV_goto (pc := 67) (tgt := 26) dX9_why_67 (by decide) ?_
      refine ih (b + 1) (by omega) (by omega) ?_
      by_cases hbn : b < M 1 1
      · rw [h3, show (M 1 1 - b).toNat = (M 1 1 - (b + 1)).toNat + 1 by omega, zfst_f (q := (fun b => (zbt s a ∧ zbt s b) ∧ ¬ zshr (zTc M a 2) (zTc M a 3) (zTc M b 2) (zTc M b 3))) (fun q => by first | exact c_37 q.1.1 | exact c_45 q.1.2 | exact c_54 ⟨⟨by omega, by omega⟩, ⟨by omega, hbn⟩, q.2⟩)]
      · rw [h3, show (M 1 1 - b).toNat = 0 by omega, show (M 1 1 - (b + 1)).toNat = 0 by omega]
        rfl
    · refine zV_iload_n (pc := 40) (i := 1) dX9_why_40 rfl rfl ?_
      refine zV_iload_n (pc := 41) (i := 3) dX9_why_41 rfl rfl ?_
      refine zV_isp (pc := 42) dX9_why_42 klX9_195 mX9_hasBit rfl ⟨Nat.zero_le _, Nat.zero_le _⟩ (kX9_hasBit hs (by omega)) rfl rfl (Nat.le_of_ble_eq_true rfl) ?_
      refine zV_if_eqb (pc := 45) (tgt := 64) dX9_why_45 (by decide) (fun c_45 => ?_) (fun c_45 => ?_)
      · refine zV_iinc (pc := 64) dX9_why_64 rfl rfl ?_
        dsimp only [List.set_cons_succ, List.set_cons_zero]
        refine zV_goto (pc := 67) (tgt := 26) dX9_why_67 (by decide) ?_
        refine ih (b + 1) (by omega) (by omega) ?_
        by_cases hbn : b < M 1 1
        · rw [h3, show (M 1 1 - b).toNat = (M 1 1 - (b + 1)).toNat + 1 by omega, zfst_f (q := (fun b => (zbt s a ∧ zbt s b) ∧ ¬ zshr (zTc M a 2) (zTc M a 3) (zTc M b 2) (zTc M b 3))) (fun q => by first | exact c_37 q.1.1 | exact c_45 q.1.2 | exact c_54 ⟨⟨by omega, by omega⟩, ⟨by omega, hbn⟩, q.2⟩)]
        · rw [h3, show (M 1 1 - b).toNat = 0 by omega, show (M 1 1 - (b + 1)).toNat = 0 by omega]
          rfl
      · refine zV_aload_n (pc := 48) (i := 0) dX9_why_48 rfl rfl ?_
        refine zV_iload_n (pc := 49) (i := 2) dX9_why_49 rfl rfl ?_
        refine zV_iload_n (pc := 50) (i := 3) dX9_why_50 rfl rfl ?_
        refine zV_ivp (pc := 51) (ci := 9) dX9_why_51 klX9_202 mX9_neverMeet ⟨by decide, rfl⟩ rfl ⟨Nat.zero_le _, Nat.zero_le _⟩ (kX9_neverMeet hS hW (by omega) (by omega)) (zOb_of rfl) rfl rfl (Nat.le_of_ble_eq_true rfl) ?_
        refine zV_if_eqb (pc := 54) (tgt := 64) dX9_why_54 (by decide) (fun c_54 => ?_) (fun c_54 => ?_)
        · refine zV_iinc (pc := 64) dX9_why_64 rfl rfl ?_
          dsimp only [List.set_cons_succ, List.set_cons_zero]
          refine zV_goto (pc := 67) (tgt := 26) dX9_why_67 (by decide) ?_
          refine ih (b + 1) (by omega) (by omega) ?_
          by_cases hbn : b < M 1 1
          · rw [h3, show (M 1 1 - b).toNat = (M 1 1 - (b + 1)).toNat + 1 by omega, zfst_f (q := (fun b => (zbt s a ∧ zbt s b) ∧ ¬ zshr (zTc M a 2) (zTc M a 3) (zTc M b 2) (zTc M b 3))) (fun q => by first | exact c_37 q.1.1 | exact c_45 q.1.2 | exact c_54 ⟨⟨by omega, by omega⟩, ⟨by omega, hbn⟩, q.2⟩)]
          · rw [h3, show (M 1 1 - b).toNat = 0 by omega, show (M 1 1 - (b + 1)).toNat = 0 by omega]
            rfl
        · have c54 := c_54.2.1
          refine zV_bipush (pc := 57) dX9_why_57 (by decide) ?_
          refine zV_iload_n (pc := 59) (i := 2) dX9_why_59 rfl rfl ?_
          refine zV_imul (pc := 60) dX9_why_60 ?_
          refine zV_iload_n (pc := 61) (i := 3) dX9_why_61 rfl rfl ?_
          refine zV_iadd (pc := 62) dX9_why_62 ?_
          refine zV_iret (pc := 63) dX9_why_63 trivial ⟨Nat.zero_le _, Nat.zero_le _⟩ ?_
          exact zPe (by rw [hY b (by omega) (by rw [h3, show (M 1 1 - b).toNat = (M 1 1 - (b + 1)).toNat + 1 by omega, zfst_t (q := (fun b => (zbt s a ∧ zbt s b) ∧ ¬ zshr (zTc M a 2) (zTc M a 3) (zTc M b 2) (zTc M b 3))) ⟨⟨c_37, c_45⟩, c_54.2.2⟩]) ])
set_option maxRecDepth 20000 in
set_option maxHeartbeats 2000000 in
theorem kX9_whL (hR : zRo M) {s : Int} (hs : 0 ≤ s ∧ s ≤ 2147483647) {z9 : Int} : ∀ (k : Nat) (a : Int) (w3 : zv), a + k = 6 → 0 ≤ a → z9 = zwy (fun a b => (zbt s a ∧ zbt s b) ∧ ¬ zshr (zTc M a 2) (zTc M a 3) (zTc M b 2) (zTc M b 3)) (M 1 1) a (M 1 1 - a).toNat → zV g xX9_why (zPp (zi z9) 75 M) 16 [zr 0, zi s, zi a, w3] [] 75 M 0 0 := by
  intro k
  induction k with
  | zero =>
    intro a w3 h0 h1 h3
    obtain ⟨hS, hW, hU, hh⟩ := id hR
    have hn := hW.1
    refine zV_iload_n (pc := 16) (i := 2) dX9_why_16 rfl rfl ?_
    refine zV_bipush (pc := 17) dX9_why_17 (by decide) ?_
    refine zV_icmp_ge (pc := 19) (tgt := 76) dX9_why_19 (by decide) (by omega) (fun c_19 => ?_) (fun c_19 => absurd (by omega) c_19)
    refine zV_iconst (pc := 76) dX9_why_76 ?_
    refine zV_iret (pc := 77) dX9_why_77 trivial ⟨Nat.zero_le _, Nat.zero_le _⟩ ?_
    exact zPe (by rw [h3, show (M 1 1 - a).toNat = 0 by omega]; rfl)
  | succ k ih =>
    intro a w3 h0 h1 h3
    obtain ⟨hS, hW, hU, hh⟩ := id hR
    have hn := hW.1
    refine zV_iload_n (pc := 16) (i := 2) dX9_why_16 rfl rfl ?_
    refine zV_bipush (pc := 17) dX9_why_17 (by decide) ?_
    refine zV_icmp_ge (pc := 19) (tgt := 76) dX9_why_19 (by decide) (by omega) (fun c_19 => absurd c_19 (by omega)) (fun c_19 => ?_)
    refine zV_iload_n (pc := 22) (i := 2) dX9_why_22 rfl rfl ?_
    refine zV_iconst (pc := 23) dX9_why_23 ?_
    refine zV_iadd (pc := 24) dX9_why_24 ?_
    refine zV_istore_n (pc := 25) (i := 3) dX9_why_25 rfl rfl ?_
    try dsimp only [List.set_cons_succ, List.set_cons_zero]
    by_cases hlt : a < M 1 1
    · have hd : zwy (fun a b => (zbt s a ∧ zbt s b) ∧ ¬ zshr (zTc M a 2) (zTc M a 3) (zTc M b 2) (zTc M b 3)) (M 1 1) a ((M 1 1 - (a + 1)).toNat + 1) = if zfst (fun b => (zbt s a ∧ zbt s b) ∧ ¬ zshr (zTc M a 2) (zTc M a 3) (zTc M b 2) (zTc M b 3)) (a + 1) (M 1 1 - (a + 1)).toNat = -1 then zwy (fun a b => (zbt s a ∧ zbt s b) ∧ ¬ zshr (zTc M a 2) (zTc M a 3) (zTc M b 2) (zTc M b 3)) (M 1 1) (a + 1) (M 1 1 - (a + 1)).toNat else 10 * a + zfst (fun b => (zbt s a ∧ zbt s b) ∧ ¬ zshr (zTc M a 2) (zTc M a 3) (zTc M b 2) (zTc M b 3)) (a + 1) (M 1 1 - (a + 1)).toNat := rfl
      rw [show (M 1 1 - a).toNat = (M 1 1 - (a + 1)).toNat + 1 by omega] at h3
      refine kX9_whI (z9 := z9) hR hs ⟨by omega, by omega⟩ (fun w3 hx => ?_) (fun b hb hy => ?_) (6 - (a + 1)).toNat (a + 1) (by omega) (by omega) rfl
      · refine zV_iinc (pc := 70) dX9_why_70 rfl rfl ?_
        dsimp only [List.set_cons_succ, List.set_cons_zero]
        refine zV_goto (pc := 73) (tgt := 16) dX9_why_73 (by decide) ?_
        exact ih (a + 1) w3 (by omega) (by omega) (by rw [h3, hd, if_pos hx])
      · rw [h3, hd, if_neg (by omega), hy]
    · have hz0 : (M 1 1 - (a + 1)).toNat = 0 := by omega
      have hz1 : zfst (fun b => (zbt s a ∧ zbt s b) ∧ ¬ zshr (zTc M a 2) (zTc M a 3) (zTc M b 2) (zTc M b 3)) (a + 1) (M 1 1 - (a + 1)).toNat = -1 := by
        rw [hz0]
        rfl
      refine kX9_whI (z9 := z9) hR hs ⟨by omega, by omega⟩ (fun w3 hx => ?_) (fun b hb hy => ?_) (6 - (a + 1)).toNat (a + 1) (by omega) (by omega) rfl
      · refine zV_iinc (pc := 70) dX9_why_70 rfl rfl ?_
        dsimp only [List.set_cons_succ, List.set_cons_zero]
        refine zV_goto (pc := 73) (tgt := 16) dX9_why_73 (by decide) ?_
        exact ih (a + 1) w3 (by omega) (by omega) (by rw [h3, show (M 1 1 - a).toNat = 0 by omega, hz0]; rfl)
      · exfalso
        omega
set_option maxRecDepth 20000 in
set_option maxHeartbeats 2000000 in
theorem kX9_why (hR : zRo M) {s : Int} (hs : -2147483648 ≤ s ∧ s ≤ 2147483647) : zK g yX9_why xX9_why [zr 0, zi s] 75 M (zPp (zi (zif (0 ≤ s ∧ s / 2 ^ (M 1 1).toNat = 0) (zwy (fun a b => (zbt s a ∧ zbt s b) ∧ ¬ zshr (zTc M a 2) (zTc M a 3) (zTc M b 2) (zTc M b 3)) (M 1 1) 0 (M 1 1).toNat) (-2))) 75 M) := by
  refine zK_of (ls0 := [zr 0, zi s, (3, 0), (3, 0)]) (by decide) rfl (by decide) rfl (Nat.le_of_ble_eq_true rfl) ?_
  obtain ⟨hS, hW, hU, hh⟩ := id hR
  have hn := hW.1
  refine zV_aload_n (pc := 0) (i := 0) dX9_why_0 rfl rfl ?_
  refine zV_get (pc := 1) (j := 0) dX9_why_1 flX9_12 (zOb_of rfl) rfl hS.e0_0 ?_
  refine zV_iload_n (pc := 4) (i := 1) dX9_why_4 rfl rfl ?_
  refine zV_ivp (pc := 5) (ci := 5) dX9_why_5 klX9_189 mX5_hasAll ⟨by decide, rfl⟩ rfl ⟨Nat.zero_le _, Nat.zero_le _⟩ (kX5_hasAll hS hn (by omega)) (zOb_of rfl) rfl rfl (Nat.le_of_ble_eq_true rfl) ?_
  refine zV_if_neb (pc := 8) (tgt := 14) dX9_why_8 (by decide) (fun c_8 => ?_) (fun c_8 => ?_)
  · refine zV_iconst (pc := 14) dX9_why_14 ?_
    refine zV_istore_n (pc := 15) (i := 2) dX9_why_15 rfl rfl ?_
    try dsimp only [List.set_cons_succ, List.set_cons_zero]
    exact kX9_whL hR (by omega) 6 0 _ (by omega) (by omega) ((zif_t c_8).trans (by rw [Int.sub_zero]))
  · refine zV_bipush (pc := 11) dX9_why_11 (by decide) ?_
    refine zV_iret (pc := 13) dX9_why_13 trivial ⟨Nat.zero_le _, Nat.zero_le _⟩ ?_
    exact zPe (zif_f c_8).symm
end
