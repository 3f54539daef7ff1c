/-! THE MODEL: day, when, often, the year's numbers, draws (printed by wip/whole/p54.py) -/
section
variable {g : zG} {N : Nat} {M : zM}
set_option maxRecDepth 20000 in
set_option maxHeartbeats 2000000 in
theorem kX10_day {tp : Int → Int} {z : Int} (hR : zRo2 M tp z) {d k : Int} (hd : -2147483648 ≤ d ∧ d ≤ 2147483647) (hk : -2147483648 ≤ k ∧ k ≤ 2147483647) : zK g yX10_day xX10_day [zr 58, zi d, zi k] 75 M (zPq (zi (zif ((0 ≤ d ∧ d ≤ 399) ∧ (0 ≤ k ∧ k ≤ 2)) (if k = 0 then zfm M d else if k = 1 then zkm M tp z (zfm M) d else zb (zhd (M 58 7) d)) (-2))) 75 (fun M1 => zFr zMs M M1)) := by
  refine zK_of (ls0 := [zr 58, zi d, zi k]) (by decide) rfl (by decide) rfl (Nat.le_of_ble_eq_true rfl) ?_
  obtain ⟨hS, hW, hU, hh⟩ := id hR
  have hn := hW.1
  refine zV_iload_n (pc := 0) (i := 1) dX10_day_0 rfl rfl ?_
  refine zV_isp (pc := 1) dX10_day_1 klX10_355 mX10_isDay rfl ⟨Nat.zero_le _, Nat.zero_le _⟩ (kX10_isDay (by omega)) rfl rfl (Nat.le_of_ble_eq_true rfl) ?_
  refine zV_if_eqb (pc := 4) (tgt := 19) dX10_day_4 (by decide) (fun c_4 => ?_) (fun c_4 => ?_)
  · refine zV_bipush (pc := 19) dX10_day_19 (by decide) ?_
    refine zV_iret (pc := 21) dX10_day_21 trivial ⟨Nat.zero_le _, Nat.zero_le _⟩ ?_
    refine ⟨congrArg (fun x => some (zi x)) (zif_f (fun q => ?_)).symm, rfl, zFr.rf⟩
    first
      | exact c_4 q.1
      | exact c_16 q.2
  · refine zV_iload_n (pc := 7) (i := 2) dX10_day_7 rfl rfl ?_
    refine zV_i2l (pc := 8) dX10_day_8 (by omega) ?_
    refine zV_lconst0 (pc := 9) dX10_day_9 ?_
    refine zV_ldc2 (pc := 10) dX10_day_10 kiX10_358 ?_
    refine zV_isp (pc := 13) dX10_day_13 klX10_76 mX10_in rfl ⟨Nat.zero_le _, Nat.zero_le _⟩ (kX10_in (by omega) (by omega) (by omega)) rfl rfl (Nat.le_of_ble_eq_true rfl) ?_
    refine zV_if_neb (pc := 16) (tgt := 22) dX10_day_16 (by decide) (fun c_16 => ?_) (fun c_16 => ?_)
    · refine zV_iload_n (pc := 22) (i := 2) dX10_day_22 rfl rfl ?_
      refine zV_iconst (pc := 23) dX10_day_23 ?_
      refine zV_icmp_ne (pc := 24) (tgt := 41) dX10_day_24 (by decide) (by omega) (fun c_24 => ?_) (fun c_24 => ?_)
      · refine zV_aload_n (pc := 41) (i := 0) dX10_day_41 rfl rfl ?_
        refine zV_ivn (pc := 42) (ci := 10) dX10_day_42 klX10_349 mX10_lives ⟨by decide, rfl⟩ rfl ⟨Nat.zero_le _, Nat.zero_le _⟩ (kX10_lives hR) (zOb_of rfl) rfl rfl (Nat.le_of_ble_eq_true rfl) (fun M1 q1 => ?_)
        have f1 : zFr zMs M M1 := q1.2.mono (fun a j y => by unfold zMs; omega)
        have hS1 := (hR.fr f1).1
        refine zV_iload_n (pc := 45) (i := 2) dX10_day_45 rfl rfl ?_
        refine zV_if_ne (pc := 46) (tgt := 58) dX10_day_46 (by decide) (by omega) (fun c_46 => ?_) (fun c_46 => ?_)
        · refine zV_aload_n (pc := 58) (i := 0) dX10_day_58 rfl rfl ?_
          refine zV_iload_n (pc := 59) (i := 1) dX10_day_59 rfl rfl ?_
          refine zV_ivq (pc := 60) (ci := 10) dX10_day_60 klX10_352 mX10_costOf ⟨by decide, rfl⟩ rfl ⟨Nat.zero_le _, Nat.zero_le _⟩ (kX10_costOf (hR.fr f1) (fun e _ _ => zfm_r hn e) q1.1 (d := d) (by omega)) (zOb_of rfl) rfl rfl (Nat.le_of_ble_eq_true rfl) (fun M2 q2 => ?_)
          refine zV_iret (pc := 63) dX10_day_63 trivial ⟨Nat.zero_le _, Nat.zero_le _⟩ ?_
          first
            | (refine ⟨congrArg (fun x => some (zi x)) (Eq.trans ?_ (zif_t ⟨c_4, c_16⟩).symm), rfl, q1.2.mono (fun a j y => by unfold zMs; omega)⟩; rw [if_pos (by omega)])
            | (refine ⟨congrArg (fun x => some (zi x)) (Eq.trans ?_ (zif_t ⟨c_4, c_16⟩).symm), rfl, f1.tr (q2.mono (fun a j y => zNS_M y))⟩; rw [if_neg (by omega), if_pos (by omega)]; exact zkm_fr f1 hn d)
        · refine zV_aload_n (pc := 49) (i := 0) dX10_day_49 rfl rfl ?_
          refine zV_get (pc := 50) (j := 28) dX10_day_50 flX10_35 (zOb_of rfl) rfl hS1.e58_28 ?_
          refine zV_iload_n (pc := 53) (i := 1) dX10_day_53 rfl rfl ?_
          refine zV_iald (pc := 54) dX10_day_54 (zAr_of rfl : zAr 75 66 0 400) (by omega) (q1.1 d (by omega) (by omega)).1 ?_
          refine zV_goto (pc := 55) (tgt := 63) dX10_day_55 (by decide) ?_
          refine zV_iret (pc := 63) dX10_day_63 trivial ⟨Nat.zero_le _, Nat.zero_le _⟩ ?_
          first
            | (refine ⟨congrArg (fun x => some (zi x)) (Eq.trans ?_ (zif_t ⟨c_4, c_16⟩).symm), rfl, q1.2.mono (fun a j y => by unfold zMs; omega)⟩; rw [if_pos (by omega)])
            | (refine ⟨congrArg (fun x => some (zi x)) (Eq.trans ?_ (zif_t ⟨c_4, c_16⟩).symm), rfl, f1.tr (q2.mono (fun a j y => zNS_M y))⟩; rw [if_neg (by omega), if_pos (by omega)]; exact zkm_fr f1 hn d)
      · refine zV_aload_n (pc := 27) (i := 0) dX10_day_27 rfl rfl ?_
        refine zV_iload_n (pc := 28) (i := 1) dX10_day_28 rfl rfl ?_
        refine zV_ivp (pc := 29) (ci := 10) dX10_day_29 klX10_113 mX10_isHoliday ⟨by decide, rfl⟩ rfl ⟨Nat.zero_le _, Nat.zero_le _⟩ (kX10_isHoliday hS hh (by omega)) (zOb_of rfl) rfl rfl (Nat.le_of_ble_eq_true rfl) ?_
        refine zV_if_eqb (pc := 32) (tgt := 39) dX10_day_32 (by decide) (fun c_32 => ?_) (fun c_32 => ?_)
        · refine zV_iconst (pc := 39) dX10_day_39 ?_
          refine zV_iret (pc := 40) dX10_day_40 trivial ⟨Nat.zero_le _, Nat.zero_le _⟩ ?_
          refine ⟨congrArg (fun x => some (zi x)) (Eq.trans ?_ (zif_t ⟨c_4, c_16⟩).symm), rfl, zFr.rf⟩
          rw [if_neg (by omega), if_neg (by omega)]
          first
            | exact (zb_t c_32).symm
            | exact (zb_f c_32).symm
        · refine zV_iconst (pc := 35) dX10_day_35 ?_
          refine zV_goto (pc := 36) (tgt := 40) dX10_day_36 (by decide) ?_
          refine zV_iret (pc := 40) dX10_day_40 trivial ⟨Nat.zero_le _, Nat.zero_le _⟩ ?_
          refine ⟨congrArg (fun x => some (zi x)) (Eq.trans ?_ (zif_t ⟨c_4, c_16⟩).symm), rfl, zFr.rf⟩
          rw [if_neg (by omega), if_neg (by omega)]
          first
            | exact (zb_t c_32).symm
            | exact (zb_f c_32).symm
    · refine zV_bipush (pc := 19) dX10_day_19 (by decide) ?_
      refine zV_iret (pc := 21) dX10_day_21 trivial ⟨Nat.zero_le _, Nat.zero_le _⟩ ?_
      refine ⟨congrArg (fun x => some (zi x)) (zif_f (fun q => ?_)).symm, rfl, zFr.rf⟩
      first
        | exact c_4 q.1
        | exact c_16 q.2
set_option maxRecDepth 20000 in
set_option maxHeartbeats 2000000 in
theorem kX10_whL {tp : Int → Int} {z : Int} (hR : zRo2 M tp z) {t a : Int} (ht : 0 ≤ t ∧ t < M 58 12) (ha : 0 ≤ a ∧ a ≤ 400) : ∀ (k : Nat) (d : Int), d + k = 400 → 0 ≤ d → zfst (fun d => zct (zTm M) (M 58 7) d t) a (400 - a).toNat = zfst (fun d => zct (zTm M) (M 58 7) d t) d k → zV g xX10_when (zPp (zi (zfst (fun d => zct (zTm M) (M 58 7) d t) a (400 - a).toNat)) 75 M) 20 [zr 58, zi t, zi a, zi d] [] 75 M 0 0 := by
  intro k
  induction k with
  | zero =>
    intro d h0 h1 h2
    refine zV_iload_n (pc := 20) (i := 3) dX10_when_20 rfl rfl ?_
    refine zV_sipush (pc := 21) dX10_when_21 (by decide) ?_
    refine zV_icmp_ge (pc := 24) (tgt := 44) dX10_when_24 (by decide) (by omega) (fun c_24 => ?_) (fun c_24 => absurd (by omega) c_24)
    refine zV_iconst (pc := 44) dX10_when_44 ?_
    refine zV_iret (pc := 45) dX10_when_45 trivial ⟨Nat.zero_le _, Nat.zero_le _⟩ ?_
    exact zPe h2.symm
  | succ k ih =>
    intro d h0 h1 h2
    refine zV_iload_n (pc := 20) (i := 3) dX10_when_20 rfl rfl ?_
    refine zV_sipush (pc := 21) dX10_when_21 (by decide) ?_
    refine zV_icmp_ge (pc := 24) (tgt := 44) dX10_when_24 (by decide) (by omega) (fun c_24 => absurd c_24 (by omega)) (fun c_24 => ?_)
    refine zV_aload_n (pc := 27) (i := 0) dX10_when_27 rfl rfl ?_
    refine zV_iload_n (pc := 28) (i := 1) dX10_when_28 rfl rfl ?_
    refine zV_iload_n (pc := 29) (i := 3) dX10_when_29 rfl rfl ?_
    refine zV_ivp (pc := 30) (ci := 10) dX10_when_30 klX10_336 mX10_comes ⟨by decide, rfl⟩ rfl ⟨Nat.zero_le _, Nat.zero_le _⟩ (kX10_comesF hR zFr.rf (by omega) (by omega)) (zOb_of rfl) rfl rfl (Nat.le_of_ble_eq_true rfl) ?_
    refine zV_if_eqb (pc := 33) (tgt := 38) dX10_when_33 (by decide) (fun c_33 => ?_) (fun c_33 => ?_)
    · refine zV_iinc (pc := 38) dX10_when_38 rfl rfl ?_
      try dsimp only [List.set_cons_succ, List.set_cons_zero]
      refine zV_goto (pc := 41) (tgt := 20) dX10_when_41 (by decide) ?_
      exact ih (d + 1) (by omega) (by omega) (h2.trans (zfst_f (q := (fun d => zct (zTm M) (M 58 7) d t)) c_33))
    · refine zV_iload_n (pc := 36) (i := 3) dX10_when_36 rfl rfl ?_
      refine zV_iret (pc := 37) dX10_when_37 trivial ⟨Nat.zero_le _, Nat.zero_le _⟩ ?_
      exact zPe ((zfst_t (q := (fun d => zct (zTm M) (M 58 7) d t)) c_33).symm.trans h2.symm)
set_option maxRecDepth 20000 in
set_option maxHeartbeats 2000000 in
theorem kX10_when {tp : Int → Int} {z : Int} (hR : zRo2 M tp z) {t a : Int} (ht : -2147483648 ≤ t ∧ t ≤ 2147483647) (ha : -2147483648 ≤ a ∧ a ≤ 2147483647) : zK g yX10_when xX10_when [zr 58, zi t, zi a] 75 M (zPp (zi (zif ((0 ≤ t ∧ t < M 58 12) ∧ (0 ≤ a ∧ a ≤ 399)) (zfst (fun d => zct (zTm M) (M 58 7) d t) a (400 - a).toNat) (-2))) 75 M) := by
  refine zK_of (ls0 := [zr 58, zi t, zi a, (3, 0)]) (by decide) rfl (by decide) rfl (Nat.le_of_ble_eq_true rfl) ?_
  refine zV_aload_n (pc := 0) (i := 0) dX10_when_0 rfl rfl ?_
  refine zV_iload_n (pc := 1) (i := 1) dX10_when_1 rfl rfl ?_
  refine zV_ivp (pc := 2) (ci := 10) dX10_when_2 klX10_84 mX10_isThing ⟨by decide, rfl⟩ rfl ⟨Nat.zero_le _, Nat.zero_le _⟩ (kX10_isThing hR.2.1.1 (by omega)) (zOb_of rfl) rfl rfl (Nat.le_of_ble_eq_true rfl) ?_
  refine zV_if_eqb (pc := 5) (tgt := 15) dX10_when_5 (by decide) (fun c_5 => ?_) (fun c_5 => ?_)
  · refine zV_bipush (pc := 15) dX10_when_15 (by decide) ?_
    refine zV_iret (pc := 17) dX10_when_17 trivial ⟨Nat.zero_le _, Nat.zero_le _⟩ ?_
    first
      | exact zPe (zif_f (fun q => c_5 q.1)).symm
      | exact zPe (zif_f (fun q => c_12 q.2)).symm
  · refine zV_iload_n (pc := 8) (i := 2) dX10_when_8 rfl rfl ?_
    refine zV_isp (pc := 9) dX10_when_9 klX10_355 mX10_isDay rfl ⟨Nat.zero_le _, Nat.zero_le _⟩ (kX10_isDay (by omega)) rfl rfl (Nat.le_of_ble_eq_true rfl) ?_
    refine zV_if_neb (pc := 12) (tgt := 18) dX10_when_12 (by decide) (fun c_12 => ?_) (fun c_12 => ?_)
    · refine zV_iload_n (pc := 18) (i := 2) dX10_when_18 rfl rfl ?_
      refine zV_istore_n (pc := 19) (i := 3) dX10_when_19 rfl rfl ?_
      try dsimp only [List.set_cons_succ, List.set_cons_zero]
      rw [zif_t ⟨c_5, c_12⟩]
      exact kX10_whL hR c_5 (by omega) (400 - a).toNat a (by omega) (by omega) rfl
    · refine zV_bipush (pc := 15) dX10_when_15 (by decide) ?_
      refine zV_iret (pc := 17) dX10_when_17 trivial ⟨Nat.zero_le _, Nat.zero_le _⟩ ?_
      first
        | exact zPe (zif_f (fun q => c_5 q.1)).symm
        | exact zPe (zif_f (fun q => c_12 q.2)).symm
set_option maxRecDepth 20000 in
set_option maxHeartbeats 2000000 in
theorem kX10_ofL {tp : Int → Int} {z : Int} (hR : zRo2 M tp z) {t m : Int} (ht : 0 ≤ t ∧ t < M 58 12) (hm : 0 ≤ m ∧ m ≤ 400) : ∀ (k : Nat) (d c : Int), d + k = m → 0 ≤ d → c = zsum (fun d => zb (zct (zTm M) (M 58 7) d t)) d.toNat → zV g xX10_often (zPp (zi (zsum (fun d => zb (zct (zTm M) (M 58 7) d t)) m.toNat)) 75 M) 28 [zr 58, zi t, zi m, zi c, zi d] [] 75 M 0 0 := by
  intro k
  induction k with
  | zero =>
    intro d c h0 h1 h2
    have hzb := zsum_b (f := (fun d => zb (zct (zTm M) (M 58 7) d t))) (m := 1) (n := d.toNat) (fun k _ _ => zb_r _)
    refine zV_iload (pc := 28) dX10_often_28 rfl ?_
    refine zV_iload_n (pc := 30) (i := 2) dX10_often_30 rfl rfl ?_
    refine zV_icmp_ge (pc := 31) (tgt := 58) dX10_often_31 (by decide) (by omega) (fun c_31 => ?_) (fun c_31 => absurd (by omega) c_31)
    refine zV_iload_n (pc := 58) (i := 3) dX10_often_58 rfl rfl ?_
    refine zV_iret (pc := 59) dX10_often_59 trivial ⟨Nat.zero_le _, Nat.zero_le _⟩ ?_
    rw [show d = m by omega] at h2
    exact zPe h2
  | succ k ih =>
    intro d c h0 h1 h2
    have hzb := zsum_b (f := (fun d => zb (zct (zTm M) (M 58 7) d t))) (m := 1) (n := d.toNat) (fun k _ _ => zb_r _)
    refine zV_iload (pc := 28) dX10_often_28 rfl ?_
    refine zV_iload_n (pc := 30) (i := 2) dX10_often_30 rfl rfl ?_
    refine zV_icmp_ge (pc := 31) (tgt := 58) dX10_often_31 (by decide) (by omega) (fun c_31 => absurd c_31 (by omega)) (fun c_31 => ?_)
    refine zV_iload_n (pc := 34) (i := 3) dX10_often_34 rfl rfl ?_
    refine zV_aload_n (pc := 35) (i := 0) dX10_often_35 rfl rfl ?_
    refine zV_iload_n (pc := 36) (i := 1) dX10_often_36 rfl rfl ?_
    refine zV_iload (pc := 37) dX10_often_37 rfl ?_
    refine zV_ivp (pc := 39) (ci := 10) dX10_often_39 klX10_336 mX10_comes ⟨by decide, rfl⟩ rfl ⟨Nat.zero_le _, Nat.zero_le _⟩ (kX10_comesF hR zFr.rf (by omega) (by omega)) (zOb_of rfl) rfl rfl (Nat.le_of_ble_eq_true rfl) ?_
    refine zV_if_eqb (pc := 42) (tgt := 49) dX10_often_42 (by decide) (fun c_42 => ?_) (fun c_42 => ?_)
    · refine zV_iconst (pc := 49) dX10_often_49 ?_
      refine zV_iadd (pc := 50) dX10_often_50 ?_
      refine zV_istore_n (pc := 51) (i := 3) dX10_often_51 rfl rfl ?_
      try dsimp only [List.set_cons_succ, List.set_cons_zero]
      refine zV_iinc (pc := 52) dX10_often_52 rfl rfl ?_
      try dsimp only [List.set_cons_succ, List.set_cons_zero]
      refine zV_goto (pc := 55) (tgt := 28) dX10_often_55 (by decide) ?_
      first
        | exact ih (d + 1) _ (by omega) (by omega) (by rw [h2, zsum_n h1, zb_t c_42])
        | exact ih (d + 1) _ (by omega) (by omega) (by rw [h2, zsum_n h1, zb_f c_42])
    · refine zV_iconst (pc := 45) dX10_often_45 ?_
      refine zV_goto (pc := 46) (tgt := 50) dX10_often_46 (by decide) ?_
      refine zV_iadd (pc := 50) dX10_often_50 ?_
      refine zV_istore_n (pc := 51) (i := 3) dX10_often_51 rfl rfl ?_
      try dsimp only [List.set_cons_succ, List.set_cons_zero]
      refine zV_iinc (pc := 52) dX10_often_52 rfl rfl ?_
      try dsimp only [List.set_cons_succ, List.set_cons_zero]
      refine zV_goto (pc := 55) (tgt := 28) dX10_often_55 (by decide) ?_
      first
        | exact ih (d + 1) _ (by omega) (by omega) (by rw [h2, zsum_n h1, zb_t c_42])
        | exact ih (d + 1) _ (by omega) (by omega) (by rw [h2, zsum_n h1, zb_f c_42])
set_option maxRecDepth 20000 in
set_option maxHeartbeats 2000000 in
theorem kX10_often {tp : Int → Int} {z : Int} (hR : zRo2 M tp z) {t m : Int} (ht : -2147483648 ≤ t ∧ t ≤ 2147483647) (hm : -2147483648 ≤ m ∧ m ≤ 2147483647) : zK g yX10_often xX10_often [zr 58, zi t, zi m] 75 M (zPp (zi (zif ((0 ≤ t ∧ t < M 58 12) ∧ (0 ≤ m ∧ m ≤ 400)) (zsum (fun d => zb (zct (zTm M) (M 58 7) d t)) m.toNat) (-2))) 75 M) := by
  refine zK_of (ls0 := [zr 58, zi t, zi m, (3, 0), (3, 0)]) (by decide) rfl (by decide) rfl (Nat.le_of_ble_eq_true rfl) ?_
  refine zV_aload_n (pc := 0) (i := 0) dX10_often_0 rfl rfl ?_
  refine zV_iload_n (pc := 1) (i := 1) dX10_often_1 rfl rfl ?_
  refine zV_ivp (pc := 2) (ci := 10) dX10_often_2 klX10_84 mX10_isThing ⟨by decide, rfl⟩ rfl ⟨Nat.zero_le _, Nat.zero_le _⟩ (kX10_isThing hR.2.1.1 (by omega)) (zOb_of rfl) rfl rfl (Nat.le_of_ble_eq_true rfl) ?_
  refine zV_if_eqb (pc := 5) (tgt := 20) dX10_often_5 (by decide) (fun c_5 => ?_) (fun c_5 => ?_)
  · refine zV_bipush (pc := 20) dX10_often_20 (by decide) ?_
    refine zV_iret (pc := 22) dX10_often_22 trivial ⟨Nat.zero_le _, Nat.zero_le _⟩ ?_
    first
      | exact zPe (zif_f (fun q => c_5 q.1)).symm
      | exact zPe (zif_f (fun q => c_17 q.2)).symm
  · refine zV_iload_n (pc := 8) (i := 2) dX10_often_8 rfl rfl ?_
    refine zV_i2l (pc := 9) dX10_often_9 (by omega) ?_
    refine zV_lconst0 (pc := 10) dX10_often_10 ?_
    refine zV_ldc2 (pc := 11) dX10_often_11 kiX10_360 ?_
    refine zV_isp (pc := 14) dX10_often_14 klX10_76 mX10_in rfl ⟨Nat.zero_le _, Nat.zero_le _⟩ (kX10_in (by omega) (by omega) (by omega)) rfl rfl (Nat.le_of_ble_eq_true rfl) ?_
    refine zV_if_neb (pc := 17) (tgt := 23) dX10_often_17 (by decide) (fun c_17 => ?_) (fun c_17 => ?_)
    · refine zV_iconst (pc := 23) dX10_often_23 ?_
      refine zV_istore_n (pc := 24) (i := 3) dX10_often_24 rfl rfl ?_
      try dsimp only [List.set_cons_succ, List.set_cons_zero]
      refine zV_iconst (pc := 25) dX10_often_25 ?_
      refine zV_istore (pc := 26) dX10_often_26 rfl ?_
      try dsimp only [List.set_cons_succ, List.set_cons_zero]
      rw [zif_t ⟨c_5, c_17⟩]
      exact kX10_ofL hR c_5 c_17 m.toNat 0 0 (by omega) (by omega) rfl
    · refine zV_bipush (pc := 20) dX10_often_20 (by decide) ?_
      refine zV_iret (pc := 22) dX10_often_22 trivial ⟨Nat.zero_le _, Nat.zero_le _⟩ ?_
      first
        | exact zPe (zif_f (fun q => c_5 q.1)).symm
        | exact zPe (zif_f (fun q => c_17 q.2)).symm
set_option maxRecDepth 20000 in
set_option maxHeartbeats 2000000 in
theorem kX10_doL (hS : zSt M) {f : Int → Int} (hL : zLv M f) (h6 : ∀ d : Int, 0 ≤ d → d < 400 → 0 ≤ f d ∧ f d < 64) {l : Int} (hl : 0 ≤ l ∧ l ≤ 100) : ∀ (k : Nat) (d c : Int), d + k = 400 → 0 ≤ d → c = zsum (fun d => zb (l ≤ zpc (f d))) d.toNat → zV g xX10_daysOf (zPp (zi (zsum (fun d => zb (l ≤ zpc (f d))) 400)) 75 M) 4 [zr 58, zi l, zi c, zi d] [] 75 M 0 0 := by
  intro k
  induction k with
  | zero =>
    intro d c h0 h1 h2
    have hz := zsum_b (f := (fun d => zb (l ≤ zpc (f d)))) (m := 1) (n := d.toNat) (fun k _ _ => zb_r _)
    refine zV_iload_n (pc := 4) (i := 3) dX10_daysOf_4 rfl rfl ?_
    refine zV_sipush (pc := 5) dX10_daysOf_5 (by decide) ?_
    refine zV_icmp_ge (pc := 8) (tgt := 38) dX10_daysOf_8 (by decide) (by omega) (fun c_8 => ?_) (fun c_8 => absurd (by omega) c_8)
    refine zV_iload_n (pc := 38) (i := 2) dX10_daysOf_38 rfl rfl ?_
    refine zV_iret (pc := 39) dX10_daysOf_39 trivial ⟨Nat.zero_le _, Nat.zero_le _⟩ ?_
    rw [show d = 400 by omega] at h2
    exact zPe h2
  | succ k ih =>
    intro d c h0 h1 h2
    have hz := zsum_b (f := (fun d => zb (l ≤ zpc (f d)))) (m := 1) (n := d.toNat) (fun k _ _ => zb_r _)
    have hf := h6 d h1 (by omega)
    have hpc := zpc_b (f d).toNat (by omega)
    rw [Int.toNat_of_nonneg hf.1] at hpc
    refine zV_iload_n (pc := 4) (i := 3) dX10_daysOf_4 rfl rfl ?_
    refine zV_sipush (pc := 5) dX10_daysOf_5 (by decide) ?_
    refine zV_icmp_ge (pc := 8) (tgt := 38) dX10_daysOf_8 (by decide) (by omega) (fun c_8 => absurd c_8 (by omega)) (fun c_8 => ?_)
    refine zV_iload_n (pc := 11) (i := 2) dX10_daysOf_11 rfl rfl ?_
    refine zV_aload_n (pc := 12) (i := 0) dX10_daysOf_12 rfl rfl ?_
    refine zV_get (pc := 13) (j := 28) dX10_daysOf_13 flX10_35 (zOb_of rfl) rfl hS.e58_28 ?_
    refine zV_iload_n (pc := 16) (i := 3) dX10_daysOf_16 rfl rfl ?_
    refine zV_iald (pc := 17) dX10_daysOf_17 (zAr_of rfl : zAr 75 66 0 400) (by omega) (hL d (by omega) (by omega)).1 ?_
    refine zV_isp (pc := 18) dX10_daysOf_18 klX10_339 mX10_bitsOf rfl ⟨Nat.zero_le _, Nat.zero_le _⟩ (kX10_bitsOf hf) rfl rfl (Nat.le_of_ble_eq_true rfl) ?_
    refine zV_iload_n (pc := 21) (i := 1) dX10_daysOf_21 rfl rfl ?_
    refine zV_icmp_lt (pc := 22) (tgt := 29) dX10_daysOf_22 (by decide) (by omega) (fun c_22 => ?_) (fun c_22 => ?_)
    · refine zV_iconst (pc := 29) dX10_daysOf_29 ?_
      refine zV_iadd (pc := 30) dX10_daysOf_30 ?_
      refine zV_istore_n (pc := 31) (i := 2) dX10_daysOf_31 rfl rfl ?_
      try dsimp only [List.set_cons_succ, List.set_cons_zero]
      refine zV_iinc (pc := 32) dX10_daysOf_32 rfl rfl ?_
      try dsimp only [List.set_cons_succ, List.set_cons_zero]
      refine zV_goto (pc := 35) (tgt := 4) dX10_daysOf_35 (by decide) ?_
      first
        | exact ih (d + 1) _ (by omega) (by omega) (by rw [h2, zsum_n h1, zb_t (by omega)])
        | exact ih (d + 1) _ (by omega) (by omega) (by rw [h2, zsum_n h1, zb_f (by omega)])
    · refine zV_iconst (pc := 25) dX10_daysOf_25 ?_
      refine zV_goto (pc := 26) (tgt := 30) dX10_daysOf_26 (by decide) ?_
      refine zV_iadd (pc := 30) dX10_daysOf_30 ?_
      refine zV_istore_n (pc := 31) (i := 2) dX10_daysOf_31 rfl rfl ?_
      try dsimp only [List.set_cons_succ, List.set_cons_zero]
      refine zV_iinc (pc := 32) dX10_daysOf_32 rfl rfl ?_
      try dsimp only [List.set_cons_succ, List.set_cons_zero]
      refine zV_goto (pc := 35) (tgt := 4) dX10_daysOf_35 (by decide) ?_
      first
        | exact ih (d + 1) _ (by omega) (by omega) (by rw [h2, zsum_n h1, zb_t (by omega)])
        | exact ih (d + 1) _ (by omega) (by omega) (by rw [h2, zsum_n h1, zb_f (by omega)])
set_option maxRecDepth 20000 in
set_option maxHeartbeats 2000000 in
theorem kX10_daysOf (hS : zSt M) {f : Int → Int} (hL : zLv M f) (h6 : ∀ d : Int, 0 ≤ d → d < 400 → 0 ≤ f d ∧ f d < 64) {l : Int} (hl : 0 ≤ l ∧ l ≤ 100) : zK g yX10_daysOf xX10_daysOf [zr 58, zi l] 75 M (zPp (zi (zsum (fun d => zb (l ≤ zpc (f d))) 400)) 75 M) := by
  refine zK_of (ls0 := [zr 58, zi l, (3, 0), (3, 0)]) (by decide) rfl (by decide) rfl (Nat.le_of_ble_eq_true rfl) ?_
  refine zV_iconst (pc := 0) dX10_daysOf_0 ?_
  refine zV_istore_n (pc := 1) (i := 2) dX10_daysOf_1 rfl rfl ?_
  try dsimp only [List.set_cons_succ, List.set_cons_zero]
  refine zV_iconst (pc := 2) dX10_daysOf_2 ?_
  refine zV_istore_n (pc := 3) (i := 3) dX10_daysOf_3 rfl rfl ?_
  try dsimp only [List.set_cons_succ, List.set_cons_zero]
  exact kX10_doL hS hL h6 hl 400 0 0 (by omega) (by omega) rfl
set_option maxRecDepth 20000 in
set_option maxHeartbeats 2000000 in
theorem kX10_lrL (hS : zSt M) {f : Int → Int} (hL : zLv M f) (h6 : ∀ d : Int, 0 ≤ d → d < 400 → 0 ≤ f d ∧ f d < 64) : ∀ (k : Nat) (d m : Int) (M1 : zM) (w3 : zv), d + k = 400 → 0 ≤ d → m = zlm f d.toNat → M1 58 31 = zlf f d.toNat → zFr (fun a j => a = 58 ∧ j = 31) M M1 → zV g xX10_longestRest (zPq (zi (zlm f 400)) 75 (fun M1 => M1 58 31 = zlf f 400 ∧ zFr (fun a j => a = 58 ∧ j = 31) M M1)) 9 [zr 58, zi m, zi d, w3] [] 75 M1 0 0 := by
  intro k
  induction k with
  | zero =>
    intro d m M1 w3 h0 h1 h2 h3 h4
    have hS1 := hS.fr h4 (by decide)
    have hz := zra_r f d.toNat
    have hz2 := zlm_r f d.toNat
    refine zV_iload_n (pc := 9) (i := 2) dX10_longestRest_9 rfl rfl ?_
    refine zV_sipush (pc := 10) dX10_longestRest_10 (by decide) ?_
    refine zV_icmp_ge (pc := 13) (tgt := 60) dX10_longestRest_13 (by decide) (by omega) (fun c_13 => ?_) (fun c_13 => absurd (by omega) c_13)
    refine zV_iload_n (pc := 60) (i := 1) dX10_longestRest_60 rfl rfl ?_
    refine zV_iret (pc := 61) dX10_longestRest_61 trivial ⟨Nat.zero_le _, Nat.zero_le _⟩ ?_
    rw [show d = 400 by omega] at h2 h3
    exact ⟨by rw [h2]; rfl, rfl, h3, h4⟩
  | succ k ih =>
    intro d m M1 w3 h0 h1 h2 h3 h4
    have hS1 := hS.fr h4 (by decide)
    have hz := zra_r f d.toNat
    have hz2 := zlm_r f d.toNat
    have hL1 := hL d h1 (by omega)
    have k66 : M1 66 d = f d := (h4 _ _ (by omega)).trans hL1.1
    have k67 : M1 67 d = zra f d.toNat := (h4 _ _ (by omega)).trans hL1.2
    have hf := h6 d h1 (by omega)
    refine zV_iload_n (pc := 9) (i := 2) dX10_longestRest_9 rfl rfl ?_
    refine zV_sipush (pc := 10) dX10_longestRest_10 (by decide) ?_
    refine zV_icmp_ge (pc := 13) (tgt := 60) dX10_longestRest_13 (by decide) (by omega) (fun c_13 => absurd c_13 (by omega)) (fun c_13 => ?_)
    refine zV_aload_n (pc := 16) (i := 0) dX10_longestRest_16 rfl rfl ?_
    refine zV_get (pc := 17) (j := 28) dX10_longestRest_17 flX10_35 (zOb_of rfl) rfl hS1.e58_28 ?_
    refine zV_iload_n (pc := 20) (i := 2) dX10_longestRest_20 rfl rfl ?_
    refine zV_iald (pc := 21) dX10_longestRest_21 (zAr_of rfl : zAr 75 66 0 400) (by omega) k66 ?_
    refine zV_if_ne (pc := 22) (tgt := 36) dX10_longestRest_22 (by decide) (by omega) (fun c_22 => ?_) (fun c_22 => ?_)
    · have hn1 := zra_1 (f := f) h1 c_22
      refine zV_iconst (pc := 36) dX10_longestRest_36 ?_
      refine zV_istore_n (pc := 37) (i := 3) dX10_longestRest_37 rfl rfl ?_
      try dsimp only [List.set_cons_succ, List.set_cons_zero]
      refine zV_iload_n (pc := 38) (i := 3) dX10_longestRest_38 rfl rfl ?_
      refine zV_iload_n (pc := 39) (i := 1) dX10_longestRest_39 rfl rfl ?_
      refine zV_icmp_le (pc := 40) (tgt := 54) dX10_longestRest_40 (by decide) (by omega) (fun c_40 => ?_) (fun c_40 => ?_)
      · refine zV_iinc (pc := 54) dX10_longestRest_54 rfl rfl ?_
        try dsimp only [List.set_cons_succ, List.set_cons_zero]
        refine zV_goto (pc := 57) (tgt := 9) dX10_longestRest_57 (by decide) ?_
        first
          | (have hq := zlm_f (f := f) h1 (by omega); exact ih (d + 1) m M1 _ (by omega) (by omega) (h2.trans hq.1.symm) (h3.trans hq.2.symm) h4)
          | (have hq := zlm_t (f := f) h1 (by omega); exact ih (d + 1) _ _ _ (by omega) (by omega) (by rw [hq.1, hn1]) ((zU_s _ _ _ _).trans (by rw [hq.2, hn1])) (h4.up ⟨rfl, rfl⟩))
      · refine zV_iload_n (pc := 43) (i := 3) dX10_longestRest_43 rfl rfl ?_
        refine zV_istore_n (pc := 44) (i := 1) dX10_longestRest_44 rfl rfl ?_
        try dsimp only [List.set_cons_succ, List.set_cons_zero]
        refine zV_aload_n (pc := 45) (i := 0) dX10_longestRest_45 rfl rfl ?_
        refine zV_iload_n (pc := 46) (i := 2) dX10_longestRest_46 rfl rfl ?_
        refine zV_iload_n (pc := 47) (i := 3) dX10_longestRest_47 rfl rfl ?_
        refine zV_isub (pc := 48) dX10_longestRest_48 ?_
        refine zV_iconst (pc := 49) dX10_longestRest_49 ?_
        refine zV_iadd (pc := 50) dX10_longestRest_50 ?_
        refine zV_put (pc := 51) (j := 31) dX10_longestRest_51 flX10_362 rfl (zOb_of rfl) rfl trivial ?_
        refine zV_iinc (pc := 54) dX10_longestRest_54 rfl rfl ?_
        try dsimp only [List.set_cons_succ, List.set_cons_zero]
        refine zV_goto (pc := 57) (tgt := 9) dX10_longestRest_57 (by decide) ?_
        first
          | (have hq := zlm_f (f := f) h1 (by omega); exact ih (d + 1) m M1 _ (by omega) (by omega) (h2.trans hq.1.symm) (h3.trans hq.2.symm) h4)
          | (have hq := zlm_t (f := f) h1 (by omega); exact ih (d + 1) _ _ _ (by omega) (by omega) (by rw [hq.1, hn1]) ((zU_s _ _ _ _).trans (by rw [hq.2, hn1])) (h4.up ⟨rfl, rfl⟩))
    · have hn1 := zra_0 (f := f) h1 c_22
      refine zV_aload_n (pc := 25) (i := 0) dX10_longestRest_25 rfl rfl ?_
      refine zV_get (pc := 26) (j := 29) dX10_longestRest_26 flX10_38 (zOb_of rfl) rfl hS1.e58_29 ?_
      refine zV_iload_n (pc := 29) (i := 2) dX10_longestRest_29 rfl rfl ?_
      refine zV_iald (pc := 30) dX10_longestRest_30 (zAr_of rfl : zAr 75 67 0 400) (by omega) k67 ?_
      refine zV_iconst (pc := 31) dX10_longestRest_31 ?_
      refine zV_iadd (pc := 32) dX10_longestRest_32 ?_
      refine zV_goto (pc := 33) (tgt := 37) dX10_longestRest_33 (by decide) ?_
      refine zV_istore_n (pc := 37) (i := 3) dX10_longestRest_37 rfl rfl ?_
      try dsimp only [List.set_cons_succ, List.set_cons_zero]
      refine zV_iload_n (pc := 38) (i := 3) dX10_longestRest_38 rfl rfl ?_
      refine zV_iload_n (pc := 39) (i := 1) dX10_longestRest_39 rfl rfl ?_
      refine zV_icmp_le (pc := 40) (tgt := 54) dX10_longestRest_40 (by decide) (by omega) (fun c_40 => ?_) (fun c_40 => ?_)
      · refine zV_iinc (pc := 54) dX10_longestRest_54 rfl rfl ?_
        try dsimp only [List.set_cons_succ, List.set_cons_zero]
        refine zV_goto (pc := 57) (tgt := 9) dX10_longestRest_57 (by decide) ?_
        first
          | (have hq := zlm_f (f := f) h1 (by omega); exact ih (d + 1) m M1 _ (by omega) (by omega) (h2.trans hq.1.symm) (h3.trans hq.2.symm) h4)
          | (have hq := zlm_t (f := f) h1 (by omega); exact ih (d + 1) _ _ _ (by omega) (by omega) (by rw [hq.1, hn1]) ((zU_s _ _ _ _).trans (by rw [hq.2, hn1])) (h4.up ⟨rfl, rfl⟩))
      · refine zV_iload_n (pc := 43) (i := 3) dX10_longestRest_43 rfl rfl ?_
        refine zV_istore_n (pc := 44) (i := 1) dX10_longestRest_44 rfl rfl ?_
        try dsimp only [List.set_cons_succ, List.set_cons_zero]
        refine zV_aload_n (pc := 45) (i := 0) dX10_longestRest_45 rfl rfl ?_
        refine zV_iload_n (pc := 46) (i := 2) dX10_longestRest_46 rfl rfl ?_
        refine zV_iload_n (pc := 47) (i := 3) dX10_longestRest_47 rfl rfl ?_
        refine zV_isub (pc := 48) dX10_longestRest_48 ?_
        refine zV_iconst (pc := 49) dX10_longestRest_49 ?_
        refine zV_iadd (pc := 50) dX10_longestRest_50 ?_
        refine zV_put (pc := 51) (j := 31) dX10_longestRest_51 flX10_362 rfl (zOb_of rfl) rfl trivial ?_
        refine zV_iinc (pc := 54) dX10_longestRest_54 rfl rfl ?_
        try dsimp only [List.set_cons_succ, List.set_cons_zero]
        refine zV_goto (pc := 57) (tgt := 9) dX10_longestRest_57 (by decide) ?_
        first
          | (have hq := zlm_f (f := f) h1 (by omega); exact ih (d + 1) m M1 _ (by omega) (by omega) (h2.trans hq.1.symm) (h3.trans hq.2.symm) h4)
          | (have hq := zlm_t (f := f) h1 (by omega); exact ih (d + 1) _ _ _ (by omega) (by omega) (by rw [hq.1, hn1]) ((zU_s _ _ _ _).trans (by rw [hq.2, hn1])) (h4.up ⟨rfl, rfl⟩))
set_option maxRecDepth 20000 in
set_option maxHeartbeats 2000000 in
theorem kX10_longestRest (hS : zSt M) {f : Int → Int} (hL : zLv M f) (h6 : ∀ d : Int, 0 ≤ d → d < 400 → 0 ≤ f d ∧ f d < 64) : zK g yX10_longestRest xX10_longestRest [zr 58] 75 M (zPq (zi (zlm f 400)) 75 (fun M1 => M1 58 31 = zlf f 400 ∧ zFr (fun a j => a = 58 ∧ j = 31) M M1)) := by
  refine zK_of (ls0 := [zr 58, (3, 0), (3, 0), (3, 0)]) (by decide) rfl (by decide) rfl (Nat.le_of_ble_eq_true rfl) ?_
  refine zV_iconst (pc := 0) dX10_longestRest_0 ?_
  refine zV_istore_n (pc := 1) (i := 1) dX10_longestRest_1 rfl rfl ?_
  try dsimp only [List.set_cons_succ, List.set_cons_zero]
  refine zV_aload_n (pc := 2) (i := 0) dX10_longestRest_2 rfl rfl ?_
  refine zV_iconst (pc := 3) dX10_longestRest_3 ?_
  refine zV_put (pc := 4) (j := 31) dX10_longestRest_4 flX10_362 rfl (zOb_of rfl) rfl trivial ?_
  refine zV_iconst (pc := 7) dX10_longestRest_7 ?_
  refine zV_istore_n (pc := 8) (i := 2) dX10_longestRest_8 rfl rfl ?_
  try dsimp only [List.set_cons_succ, List.set_cons_zero]
  exact kX10_lrL hS hL h6 400 0 0 _ _ (by omega) (by omega) rfl (zU_s _ _ _ _) (zFr.rf.up ⟨rfl, rfl⟩)
set_option maxRecDepth 20000 in
set_option maxHeartbeats 2000000 in
theorem kX10_iwL (hS : zSt M) {f : Int → Int} (hL : zLv M f) (h6 : ∀ d : Int, 0 ≤ d → d < 400 → 0 ≤ f d ∧ f d < 64) {v : Int} (hv : 0 ≤ v ∧ v ≤ 56) : ∀ (k : Nat) (d c : Int), d + k = 7 * v + 7 → 7 * v ≤ d → d ≤ 7 * v + 7 → c = zsum (fun k => zpc (f (7 * v + k))) (d - 7 * v).toNat → zV g xX10_inWeek (zPp (zi (zwk f v)) 75 M) 7 [zr 58, zi v, zi c, zi d] [] 75 M 0 0 := by
  intro k
  induction k with
  | zero =>
    intro d c h0 h1 h2 h3
    have hz := zsum_b (f := (fun k => zpc (f (7 * v + k)))) (m := 6) (n := (d - 7 * v).toNat) (fun k k0 k1 => by
      have hf := h6 (7 * v + k) (by omega) (by omega)
      have := zpc_b (f (7 * v + k)).toNat (by omega)
      rw [Int.toNat_of_nonneg hf.1] at this
      exact this)
    refine zV_iload_n (pc := 7) (i := 3) dX10_inWeek_7 rfl rfl ?_
    refine zV_bipush (pc := 8) dX10_inWeek_8 (by decide) ?_
    refine zV_iload_n (pc := 10) (i := 1) dX10_inWeek_10 rfl rfl ?_
    refine zV_imul (pc := 11) dX10_inWeek_11 ?_
    refine zV_bipush (pc := 12) dX10_inWeek_12 (by decide) ?_
    refine zV_iadd (pc := 14) dX10_inWeek_14 ?_
    refine zV_icmp_ge (pc := 15) (tgt := 36) dX10_inWeek_15 (by decide) (by omega) (fun c_15 => ?_) (fun c_15 => absurd (by omega) c_15)
    refine zV_iload_n (pc := 36) (i := 2) dX10_inWeek_36 rfl rfl ?_
    refine zV_iret (pc := 37) dX10_inWeek_37 trivial ⟨Nat.zero_le _, Nat.zero_le _⟩ ?_
    rw [show (d - 7 * v).toNat = 7 by omega] at h3
    exact zPe h3
  | succ k ih =>
    intro d c h0 h1 h2 h3
    have hz := zsum_b (f := (fun k => zpc (f (7 * v + k)))) (m := 6) (n := (d - 7 * v).toNat) (fun k k0 k1 => by
      have hf := h6 (7 * v + k) (by omega) (by omega)
      have := zpc_b (f (7 * v + k)).toNat (by omega)
      rw [Int.toNat_of_nonneg hf.1] at this
      exact this)
    have hf := h6 d (by omega) (by omega)
    have hpc := zpc_b (f d).toNat (by omega)
    rw [Int.toNat_of_nonneg hf.1] at hpc
    refine zV_iload_n (pc := 7) (i := 3) dX10_inWeek_7 rfl rfl ?_
    refine zV_bipush (pc := 8) dX10_inWeek_8 (by decide) ?_
    refine zV_iload_n (pc := 10) (i := 1) dX10_inWeek_10 rfl rfl ?_
    refine zV_imul (pc := 11) dX10_inWeek_11 ?_
    refine zV_bipush (pc := 12) dX10_inWeek_12 (by decide) ?_
    refine zV_iadd (pc := 14) dX10_inWeek_14 ?_
    refine zV_icmp_ge (pc := 15) (tgt := 36) dX10_inWeek_15 (by decide) (by omega) (fun c_15 => absurd c_15 (by omega)) (fun c_15 => ?_)
    refine zV_iload_n (pc := 18) (i := 2) dX10_inWeek_18 rfl rfl ?_
    refine zV_aload_n (pc := 19) (i := 0) dX10_inWeek_19 rfl rfl ?_
    refine zV_get (pc := 20) (j := 28) dX10_inWeek_20 flX10_35 (zOb_of rfl) rfl hS.e58_28 ?_
    refine zV_iload_n (pc := 23) (i := 3) dX10_inWeek_23 rfl rfl ?_
    refine zV_iald (pc := 24) dX10_inWeek_24 (zAr_of rfl : zAr 75 66 0 400) (by omega) (hL d (by omega) (by omega)).1 ?_
    refine zV_isp (pc := 25) dX10_inWeek_25 klX10_339 mX10_bitsOf rfl ⟨Nat.zero_le _, Nat.zero_le _⟩ (kX10_bitsOf hf) rfl rfl (Nat.le_of_ble_eq_true rfl) ?_
    refine zV_iadd (pc := 28) dX10_inWeek_28 ?_
    refine zV_istore_n (pc := 29) (i := 2) dX10_inWeek_29 rfl rfl ?_
    try dsimp only [List.set_cons_succ, List.set_cons_zero]
    refine zV_iinc (pc := 30) dX10_inWeek_30 rfl rfl ?_
    try dsimp only [List.set_cons_succ, List.set_cons_zero]
    refine zV_goto (pc := 33) (tgt := 7) dX10_inWeek_33 (by decide) ?_
    refine ih (d + 1) _ (by omega) (by omega) (by omega) ?_
    rw [show (d + 1 - 7 * v).toNat = (d - 7 * v + 1).toNat by omega, zsum_n (by omega), h3]
    show _ = _ + zpc (f (7 * v + (d - 7 * v)))
    rw [show 7 * v + (d - 7 * v) = d by omega]
set_option maxRecDepth 20000 in
set_option maxHeartbeats 2000000 in
theorem kX10_inWeek (hS : zSt M) {f : Int → Int} (hL : zLv M f) (h6 : ∀ d : Int, 0 ≤ d → d < 400 → 0 ≤ f d ∧ f d < 64) {v : Int} (hv : 0 ≤ v ∧ v ≤ 56) : zK g yX10_inWeek xX10_inWeek [zr 58, zi v] 75 M (zPp (zi (zwk f v)) 75 M) := by
  refine zK_of (ls0 := [zr 58, zi v, (3, 0), (3, 0)]) (by decide) rfl (by decide) rfl (Nat.le_of_ble_eq_true rfl) ?_
  refine zV_iconst (pc := 0) dX10_inWeek_0 ?_
  refine zV_istore_n (pc := 1) (i := 2) dX10_inWeek_1 rfl rfl ?_
  try dsimp only [List.set_cons_succ, List.set_cons_zero]
  refine zV_bipush (pc := 2) dX10_inWeek_2 (by decide) ?_
  refine zV_iload_n (pc := 4) (i := 1) dX10_inWeek_4 rfl rfl ?_
  refine zV_imul (pc := 5) dX10_inWeek_5 ?_
  refine zV_istore_n (pc := 6) (i := 3) dX10_inWeek_6 rfl rfl ?_
  try dsimp only [List.set_cons_succ, List.set_cons_zero]
  exact kX10_iwL hS hL h6 hv 7 (7 * v) 0 (by omega) (by omega) (by omega) (by rw [Int.sub_self]; rfl)
end
