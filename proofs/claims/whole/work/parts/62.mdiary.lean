/-! THE MODEL: diary (printed by wip/whole/p62.py) -/
theorem zdo_s {R : Int → Int} {j : Int} (h : zdo R j) (h1 : 0 ≤ R j ∧ R j < 400) (h2 : 0 < j → R (j - 1) < R j) : zdo R (j + 1) := by
  intro e e0 e1
  by_cases c : e = j
  · rw [c]
    exact ⟨h1, h2⟩
  · exact h e e0 (by omega)
/-- the model's sheet s tells the days R, m of them -/
def zDj (s : Int) (R : Int → Int) (m : Int) (M : zM) : Prop := (0 ≤ s ∧ s < 4) ∧ (1 ≤ m ∧ m ≤ 20) ∧ zdo R m ∧ M 73 s = m ∧ ∀ j e : Int, 0 ≤ e → e < m → j = 40 * s + e → M 74 j = R e
theorem zDj.fr {s : Int} {R : Int → Int} {m : Int} {M M1 : zM} {C : Int → Int → Prop} (h : zDj s R m M) (fr : zFr C M M1) (hC : ∀ a j, C a j → a ≠ 73 ∧ a ≠ 74) : zDj s R m M1 :=
  ⟨h.1, h.2.1, h.2.2.1, (fr _ _ (fun y => (hC _ _ y).1 rfl)).trans h.2.2.2.1, fun j e e0 e1 q => (fr _ _ (fun y => (hC _ _ y).2 rfl)).trans (h.2.2.2.2 j e e0 e1 q)⟩
theorem zb_e {p q : Prop} : zb p = zb q ↔ (p ↔ q) := by
  constructor
  · intro h
    by_cases a : p
    · rw [zb_t a] at h
      exact ⟨fun _ => zb_1.mp h.symm, fun _ => a⟩
    · rw [zb_f a] at h
      exact ⟨fun y => absurd y a, fun y => absurd y (zb_0.mp h.symm)⟩
  · exact zb_c
theorem zU_uu {M : zM} {a j x y : Int} : zU (zU M a j x) a j y = zU M a j y := by
  funext a' j'
  unfold zU
  by_cases ha : a' = a <;> by_cases hj : j' = j <;> simp [ha, hj]
section
variable {g : zG} {N : Nat} {M : zM}
set_option maxRecDepth 20000 in
set_option maxHeartbeats 2000000 in
theorem kX10_dbL (hS : zSt M) (hG : zShg M) {s : Int} (hs : 0 ≤ s ∧ s < 4) {R : Int → Int} {m : Int} (eR : ∀ j e : Int, j = 40 * s + e → M 74 j = R e) (em : M 73 s = m) (hm : 1 ≤ m ∧ m ≤ 20) : ∀ (k : Nat) (j : Int) (w4 : zv), j + k = m → 0 ≤ j → zdo R j → zV g xX10_diaryBad (zPp (zi (zif ((1 ≤ m ∧ m ≤ 20) ∧ zdo R m) 0 (-2))) 75 M) 24 [zr 58, zi s, zi m, zi j, w4] [] 75 M 0 0 := by
  intro k
  induction k with
  | zero =>
    intro j w4 h0 h1 h2
    have hi2 : ∀ e : Int, 0 ≤ e → e < 40 → -2147483648 ≤ R e ∧ R e ≤ 2147483647 := fun e e0 e1 => by rw [← eR _ _ rfl]; exact hG.2 _ (by omega) (by omega)
    refine zV_iload_n (pc := 24) (i := 3) dX10_diaryBad_24 rfl rfl ?_
    refine zV_iload_n (pc := 25) (i := 2) dX10_diaryBad_25 rfl rfl ?_
    refine zV_icmp_ge (pc := 26) (tgt := 81) dX10_diaryBad_26 (by decide) (by omega) (fun c_26 => ?_) (fun c_26 => absurd (by omega) c_26)
    refine zV_iconst (pc := 81) dX10_diaryBad_81 ?_
    refine zV_iret (pc := 82) dX10_diaryBad_82 trivial ⟨Nat.zero_le _, Nat.zero_le _⟩ ?_
    have e : j = m := by omega
    subst e
    exact zPe (zif_t ⟨hm, h2⟩).symm
  | succ k ih =>
    intro j w4 h0 h1 h2
    have hi2 : ∀ e : Int, 0 ≤ e → e < 40 → -2147483648 ≤ R e ∧ R e ≤ 2147483647 := fun e e0 e1 => by rw [← eR _ _ rfl]; exact hG.2 _ (by omega) (by omega)
    refine zV_iload_n (pc := 24) (i := 3) dX10_diaryBad_24 rfl rfl ?_
    refine zV_iload_n (pc := 25) (i := 2) dX10_diaryBad_25 rfl rfl ?_
    refine zV_icmp_ge (pc := 26) (tgt := 81) dX10_diaryBad_26 (by decide) (by omega) (fun c_26 => absurd c_26 (by omega)) (fun c_26 => ?_)
    have hj := hi2 j (by omega) (by omega)
    have hj1 : 0 < j → -2147483648 ≤ R (j - 1) ∧ R (j - 1) ≤ 2147483647 := fun q => hi2 _ (by omega) (by omega)
    refine zV_aload_n (pc := 29) (i := 0) dX10_diaryBad_29 rfl rfl ?_
    refine zV_get (pc := 30) (j := 42) dX10_diaryBad_30 flX10_63 (zOb_of rfl) rfl hS.e58_42 ?_
    refine zV_bipush (pc := 33) dX10_diaryBad_33 (by decide) ?_
    refine zV_iload_n (pc := 35) (i := 1) dX10_diaryBad_35 rfl rfl ?_
    refine zV_imul (pc := 36) dX10_diaryBad_36 ?_
    refine zV_iload_n (pc := 37) (i := 3) dX10_diaryBad_37 rfl rfl ?_
    refine zV_iadd (pc := 38) dX10_diaryBad_38 ?_
    refine zV_iald (pc := 39) dX10_diaryBad_39 (zAr_of rfl : zAr 75 74 0 160) (by omega) (show M 74 (40 * s + j) = R j from eR _ _ rfl) ?_
    refine zV_istore (pc := 40) dX10_diaryBad_40 rfl ?_
    try dsimp only [List.set_cons_succ, List.set_cons_zero]
    refine zV_iload (pc := 42) dX10_diaryBad_42 rfl ?_
    refine zV_isp (pc := 44) dX10_diaryBad_44 klX10_355 mX10_isDay rfl ⟨Nat.zero_le _, Nat.zero_le _⟩ (kX10_isDay (by omega)) rfl rfl (Nat.le_of_ble_eq_true rfl) ?_
    refine zV_if_eqb (pc := 47) (tgt := 72) dX10_diaryBad_47 (by decide) (fun c_47 => ?_) (fun c_47 => ?_)
    · refine zV_bipush (pc := 72) dX10_diaryBad_72 (by decide) ?_
      refine zV_iret (pc := 74) dX10_diaryBad_74 trivial ⟨Nat.zero_le _, Nat.zero_le _⟩ ?_
      refine zPe (zif_f (fun q => ?_)).symm
      have q1 := q.2 j h1 (by omega)
      first
        | exact c_47 ⟨by omega, by omega⟩
        | (have q2 := q1.2 (by omega); omega)
    · refine zV_iload_n (pc := 50) (i := 3) dX10_diaryBad_50 rfl rfl ?_
      refine zV_if_le (pc := 51) (tgt := 75) dX10_diaryBad_51 (by decide) (by omega) (fun c_51 => ?_) (fun c_51 => ?_)
      · refine zV_iinc (pc := 75) dX10_diaryBad_75 rfl rfl ?_
        try dsimp only [List.set_cons_succ, List.set_cons_zero]
        refine zV_goto (pc := 78) (tgt := 24) dX10_diaryBad_78 (by decide) ?_
        exact ih (j + 1) _ (by omega) (by omega) (zdo_s h2 (by omega) (fun q => by omega))
      · refine zV_iload (pc := 54) dX10_diaryBad_54 rfl ?_
        refine zV_aload_n (pc := 56) (i := 0) dX10_diaryBad_56 rfl rfl ?_
        refine zV_get (pc := 57) (j := 42) dX10_diaryBad_57 flX10_63 (zOb_of rfl) rfl hS.e58_42 ?_
        refine zV_bipush (pc := 60) dX10_diaryBad_60 (by decide) ?_
        refine zV_iload_n (pc := 62) (i := 1) dX10_diaryBad_62 rfl rfl ?_
        refine zV_imul (pc := 63) dX10_diaryBad_63 ?_
        refine zV_iload_n (pc := 64) (i := 3) dX10_diaryBad_64 rfl rfl ?_
        refine zV_iadd (pc := 65) dX10_diaryBad_65 ?_
        refine zV_iconst (pc := 66) dX10_diaryBad_66 ?_
        refine zV_isub (pc := 67) dX10_diaryBad_67 ?_
        refine zV_iald (pc := 68) dX10_diaryBad_68 (zAr_of rfl : zAr 75 74 0 160) (by omega) (show M 74 (40 * s + j - 1) = R (j - 1) from eR _ _ (by omega)) ?_
        refine zV_icmp_gt (pc := 69) (tgt := 75) dX10_diaryBad_69 (by decide) (by have := hj1 (by omega); omega) (fun c_69 => ?_) (fun c_69 => ?_)
        · refine zV_iinc (pc := 75) dX10_diaryBad_75 rfl rfl ?_
          try dsimp only [List.set_cons_succ, List.set_cons_zero]
          refine zV_goto (pc := 78) (tgt := 24) dX10_diaryBad_78 (by decide) ?_
          exact ih (j + 1) _ (by omega) (by omega) (zdo_s h2 (by omega) (fun q => by omega))
        · refine zV_bipush (pc := 72) dX10_diaryBad_72 (by decide) ?_
          refine zV_iret (pc := 74) dX10_diaryBad_74 trivial ⟨Nat.zero_le _, Nat.zero_le _⟩ ?_
          refine zPe (zif_f (fun q => ?_)).symm
          have q1 := q.2 j h1 (by omega)
          first
            | exact c_47 ⟨by omega, by omega⟩
            | (have q2 := q1.2 (by omega); omega)
set_option maxRecDepth 20000 in
set_option maxHeartbeats 2000000 in
theorem kX10_diaryBad (hS : zSt M) (hG : zShg M) {s : Int} (hs : 0 ≤ s ∧ s < 4) {R : Int → Int} {m : Int} (eR : ∀ j e : Int, j = 40 * s + e → M 74 j = R e) (em : M 73 s = m) (hi : M 71 s = 1) : zK g yX10_diaryBad xX10_diaryBad [zr 58, zi s] 75 M (zPp (zi (zif ((1 ≤ m ∧ m ≤ 20) ∧ zdo R m) 0 (-2))) 75 M) := by
  refine zK_of (ls0 := [zr 58, zi s, (3, 0), (3, 0), (3, 0)]) (by decide) rfl (by decide) rfl (Nat.le_of_ble_eq_true rfl) ?_
  have hz2 := ((hG.1 s hs.1 hs.2).2.2.2 hi).2
  refine zV_aload_n (pc := 0) (i := 0) dX10_diaryBad_0 rfl rfl ?_
  refine zV_get (pc := 1) (j := 41) dX10_diaryBad_1 flX10_60 (zOb_of rfl) rfl hS.e58_41 ?_
  refine zV_iload_n (pc := 4) (i := 1) dX10_diaryBad_4 rfl rfl ?_
  refine zV_iald (pc := 5) dX10_diaryBad_5 (zAr_of rfl : zAr 75 73 0 4) (by omega) em ?_
  refine zV_istore_n (pc := 6) (i := 2) dX10_diaryBad_6 rfl rfl ?_
  try dsimp only [List.set_cons_succ, List.set_cons_zero]
  refine zV_iload_n (pc := 7) (i := 2) dX10_diaryBad_7 rfl rfl ?_
  refine zV_i2l (pc := 8) dX10_diaryBad_8 (by omega) ?_
  refine zV_lconst1 (pc := 9) dX10_diaryBad_9 ?_
  refine zV_ldc2 (pc := 10) dX10_diaryBad_10 kiX10_400 ?_
  refine zV_isp (pc := 13) dX10_diaryBad_13 klX10_76 mX10_in rfl ⟨Nat.zero_le _, Nat.zero_le _⟩ (kX10_in (by omega) (by omega) (by omega)) rfl rfl (Nat.le_of_ble_eq_true rfl) ?_
  refine zV_if_neb (pc := 16) (tgt := 22) dX10_diaryBad_16 (by decide) (fun c_16 => ?_) (fun c_16 => ?_)
  · refine zV_iconst (pc := 22) dX10_diaryBad_22 ?_
    refine zV_istore_n (pc := 23) (i := 3) dX10_diaryBad_23 rfl rfl ?_
    try dsimp only [List.set_cons_succ, List.set_cons_zero]
    exact kX10_dbL hS hG hs eR em (by omega) m.toNat 0 _ (by omega) (by omega) (fun e e0 e1 => absurd e0 (by omega))
  · refine zV_bipush (pc := 19) dX10_diaryBad_19 (by decide) ?_
    refine zV_iret (pc := 21) dX10_diaryBad_21 trivial ⟨Nat.zero_le _, Nat.zero_le _⟩ ?_
    exact zPe (zif_f (fun q => c_16 (by omega))).symm
set_option maxRecDepth 20000 in
set_option maxHeartbeats 2000000 in
theorem kX10_itL (hS : zSt M) {s : Int} {R : Int → Int} {m : Int} (hD : zDj s R m M) {d : Int} (hd : -2147483648 ≤ d ∧ d ≤ 2147483647) : ∀ (k : Nat) (i : Int), i + k = m → 0 ≤ i → (∀ e : Int, 0 ≤ e → e < i → R e ≠ d) → zV g xX10_isTold (zPp (zi (zb (∃ j : Int, (0 ≤ j ∧ j < m) ∧ R j = d))) 75 M) 2 [zr 58, zi s, zi d, zi i] [] 75 M 0 0 := by
  intro k
  induction k with
  | zero =>
    intro i h0 h1 h2
    obtain ⟨hs, hm, ho, em, eR⟩ := id hD
    refine zV_iload_n (pc := 2) (i := 3) dX10_isTold_2 rfl rfl ?_
    refine zV_aload_n (pc := 3) (i := 0) dX10_isTold_3 rfl rfl ?_
    refine zV_get (pc := 4) (j := 41) dX10_isTold_4 flX10_60 (zOb_of rfl) rfl hS.e58_41 ?_
    refine zV_iload_n (pc := 7) (i := 1) dX10_isTold_7 rfl rfl ?_
    refine zV_iald (pc := 8) dX10_isTold_8 (zAr_of rfl : zAr 75 73 0 4) (by omega) rfl ?_
    refine zV_icmp_ge (pc := 9) (tgt := 35) dX10_isTold_9 (by decide) (by omega) (fun c_9 => ?_) (fun c_9 => absurd (by omega) c_9)
    refine zV_iconst (pc := 35) dX10_isTold_35 ?_
    refine zV_iret (pc := 36) dX10_isTold_36 (by first | exact zok_b1 | exact zok_b0 | exact zok_b) ⟨Nat.zero_le _, Nat.zero_le _⟩ ?_
    exact zPf (fun ⟨j, jj, q⟩ => h2 j jj.1 (by omega) q)
  | succ k ih =>
    intro i h0 h1 h2
    obtain ⟨hs, hm, ho, em, eR⟩ := id hD
    refine zV_iload_n (pc := 2) (i := 3) dX10_isTold_2 rfl rfl ?_
    refine zV_aload_n (pc := 3) (i := 0) dX10_isTold_3 rfl rfl ?_
    refine zV_get (pc := 4) (j := 41) dX10_isTold_4 flX10_60 (zOb_of rfl) rfl hS.e58_41 ?_
    refine zV_iload_n (pc := 7) (i := 1) dX10_isTold_7 rfl rfl ?_
    refine zV_iald (pc := 8) dX10_isTold_8 (zAr_of rfl : zAr 75 73 0 4) (by omega) rfl ?_
    refine zV_icmp_ge (pc := 9) (tgt := 35) dX10_isTold_9 (by decide) (by omega) (fun c_9 => absurd c_9 (by omega)) (fun c_9 => ?_)
    have hr := (ho i (by omega) (by omega)).1
    refine zV_aload_n (pc := 12) (i := 0) dX10_isTold_12 rfl rfl ?_
    refine zV_get (pc := 13) (j := 42) dX10_isTold_13 flX10_63 (zOb_of rfl) rfl hS.e58_42 ?_
    refine zV_bipush (pc := 16) dX10_isTold_16 (by decide) ?_
    refine zV_iload_n (pc := 18) (i := 1) dX10_isTold_18 rfl rfl ?_
    refine zV_imul (pc := 19) dX10_isTold_19 ?_
    refine zV_iload_n (pc := 20) (i := 3) dX10_isTold_20 rfl rfl ?_
    refine zV_iadd (pc := 21) dX10_isTold_21 ?_
    refine zV_iald (pc := 22) dX10_isTold_22 (zAr_of rfl : zAr 75 74 0 160) (by omega) (show M 74 (40 * s + i) = R i from eR _ _ h1 (by omega) rfl) ?_
    refine zV_iload_n (pc := 23) (i := 2) dX10_isTold_23 rfl rfl ?_
    refine zV_icmp_ne (pc := 24) (tgt := 29) dX10_isTold_24 (by decide) (by omega) (fun c_24 => ?_) (fun c_24 => ?_)
    · refine zV_iinc (pc := 29) dX10_isTold_29 rfl rfl ?_
      try dsimp only [List.set_cons_succ, List.set_cons_zero]
      refine zV_goto (pc := 32) (tgt := 2) dX10_isTold_32 (by decide) ?_
      refine ih (i + 1) (by omega) (by omega) (fun e e0 e1 => ?_)
      by_cases c : e = i
      · rw [c]; exact c_24
      · exact h2 e e0 (by omega)
    · refine zV_iconst (pc := 27) dX10_isTold_27 ?_
      refine zV_iret (pc := 28) dX10_isTold_28 (by first | exact zok_b1 | exact zok_b0 | exact zok_b) ⟨Nat.zero_le _, Nat.zero_le _⟩ ?_
      exact zPt ⟨i, ⟨h1, by omega⟩, c_24⟩
set_option maxRecDepth 20000 in
set_option maxHeartbeats 2000000 in
theorem kX10_isTold (hS : zSt M) {s : Int} {R : Int → Int} {m : Int} (hD : zDj s R m M) {d : Int} (hd : -2147483648 ≤ d ∧ d ≤ 2147483647) : zK g yX10_isTold xX10_isTold [zr 58, zi s, zi d] 75 M (zPp (zi (zb (∃ j : Int, (0 ≤ j ∧ j < m) ∧ R j = d))) 75 M) := by
  refine zK_of (ls0 := [zr 58, zi s, zi d, (3, 0)]) (by decide) rfl (by decide) rfl (Nat.le_of_ble_eq_true rfl) ?_
  refine zV_iconst (pc := 0) dX10_isTold_0 ?_
  refine zV_istore_n (pc := 1) (i := 3) dX10_isTold_1 rfl rfl ?_
  try dsimp only [List.set_cons_succ, List.set_cons_zero]
  exact kX10_itL hS hD hd m.toNat 0 (by have := hD.2.1; omega) (by omega) (fun e e0 e1 => absurd e0 (by omega))
set_option maxRecDepth 20000 in
set_option maxHeartbeats 2000000 in
theorem kX10_lastOf (hS : zSt M) {s : Int} {R : Int → Int} {m : Int} (hD : zDj s R m M) : zK g yX10_lastOf xX10_lastOf [zr 58, zi s] 75 M (zPp (zi (R (m - 1))) 75 M) := by
  refine zK_of (ls0 := [zr 58, zi s]) (by decide) rfl (by decide) rfl (Nat.le_of_ble_eq_true rfl) ?_
  obtain ⟨hs, hm, ho, em, eR⟩ := id hD
  refine zV_aload_n (pc := 0) (i := 0) dX10_lastOf_0 rfl rfl ?_
  refine zV_get (pc := 1) (j := 42) dX10_lastOf_1 flX10_63 (zOb_of rfl) rfl hS.e58_42 ?_
  refine zV_bipush (pc := 4) dX10_lastOf_4 (by decide) ?_
  refine zV_iload_n (pc := 6) (i := 1) dX10_lastOf_6 rfl rfl ?_
  refine zV_imul (pc := 7) dX10_lastOf_7 ?_
  refine zV_aload_n (pc := 8) (i := 0) dX10_lastOf_8 rfl rfl ?_
  refine zV_get (pc := 9) (j := 41) dX10_lastOf_9 flX10_60 (zOb_of rfl) rfl hS.e58_41 ?_
  refine zV_iload_n (pc := 12) (i := 1) dX10_lastOf_12 rfl rfl ?_
  refine zV_iald (pc := 13) dX10_lastOf_13 (zAr_of rfl : zAr 75 73 0 4) (by omega) em ?_
  refine zV_iadd (pc := 14) dX10_lastOf_14 ?_
  refine zV_iconst (pc := 15) dX10_lastOf_15 ?_
  refine zV_isub (pc := 16) dX10_lastOf_16 ?_
  refine zV_iald (pc := 17) dX10_lastOf_17 (zAr_of rfl : zAr 75 74 0 160) (by omega) (show M 74 (40 * s + m - 1) = R (m - 1) from eR _ _ (by omega) (by omega) (by omega)) ?_
  refine zV_iret (pc := 18) dX10_lastOf_18 trivial ⟨Nat.zero_le _, Nat.zero_le _⟩ ?_
  exact zPe rfl
set_option maxRecDepth 20000 in
set_option maxHeartbeats 2000000 in
theorem kX10_csL (hS : zSt M) {s : Int} {R : Int → Int} {m : Int} (hD : zDj s R m M) {t : Int} (ht : 0 ≤ t ∧ t < 6) (hk : 0 ≤ M 62 t ∧ M 62 t ≤ 5) (hm : 0 ≤ M 63 t ∧ M 63 t ≤ 9) (hp : 1 ≤ M 64 t ∧ M 64 t ≤ 60) (hb : 0 ≤ M 65 t ∧ M 65 t ≤ 59) (hh : 0 ≤ M 58 7 ∧ M 58 7 ≤ 127) : ∀ (k : Nat) (i : Int), i + k = R (m - 1) + 1 → 0 ≤ i → (∀ d : Int, 0 ≤ d → d < i → ((∃ j : Int, (0 ≤ j ∧ j < m) ∧ R j = d) ↔ zct (zTm M) (M 58 7) d t)) → zV g xX10_comesSo (zPp (zi (zb (zis R m (fun d => zct (zTm M) (M 58 7) d t)))) 75 M) 2 [zr 58, zi t, zi s, zi i] [] 75 M 0 0 := by
  intro k
  induction k with
  | zero =>
    intro i h0 h1 h2
    obtain ⟨hs, hmm, ho, em, eR⟩ := id hD
    have hl := (ho (m - 1) (by omega) (by omega)).1
    refine zV_iload_n (pc := 2) (i := 3) dX10_comesSo_2 rfl rfl ?_
    refine zV_aload_n (pc := 3) (i := 0) dX10_comesSo_3 rfl rfl ?_
    refine zV_iload_n (pc := 4) (i := 2) dX10_comesSo_4 rfl rfl ?_
    refine zV_ivp (pc := 5) (ci := 10) dX10_comesSo_5 klX10_402 mX10_lastOf ⟨by decide, rfl⟩ rfl ⟨Nat.zero_le _, Nat.zero_le _⟩ (kX10_lastOf hS hD) (zOb_of rfl) rfl rfl (Nat.le_of_ble_eq_true rfl) ?_
    refine zV_icmp_gt (pc := 8) (tgt := 34) dX10_comesSo_8 (by decide) (by omega) (fun c_8 => ?_) (fun c_8 => absurd (by omega) c_8)
    refine zV_iconst (pc := 34) dX10_comesSo_34 ?_
    refine zV_iret (pc := 35) dX10_comesSo_35 (by first | exact zok_b1 | exact zok_b0 | exact zok_b) ⟨Nat.zero_le _, Nat.zero_le _⟩ ?_
    exact zPt (fun d d0 d1 => h2 d d0 (by omega))
  | succ k ih =>
    intro i h0 h1 h2
    obtain ⟨hs, hmm, ho, em, eR⟩ := id hD
    have hl := (ho (m - 1) (by omega) (by omega)).1
    refine zV_iload_n (pc := 2) (i := 3) dX10_comesSo_2 rfl rfl ?_
    refine zV_aload_n (pc := 3) (i := 0) dX10_comesSo_3 rfl rfl ?_
    refine zV_iload_n (pc := 4) (i := 2) dX10_comesSo_4 rfl rfl ?_
    refine zV_ivp (pc := 5) (ci := 10) dX10_comesSo_5 klX10_402 mX10_lastOf ⟨by decide, rfl⟩ rfl ⟨Nat.zero_le _, Nat.zero_le _⟩ (kX10_lastOf hS hD) (zOb_of rfl) rfl rfl (Nat.le_of_ble_eq_true rfl) ?_
    refine zV_icmp_gt (pc := 8) (tgt := 34) dX10_comesSo_8 (by decide) (by omega) (fun c_8 => ?_) (fun c_8 => ?_)
    · refine zV_iconst (pc := 34) dX10_comesSo_34 ?_
      refine zV_iret (pc := 35) dX10_comesSo_35 (by first | exact zok_b1 | exact zok_b0 | exact zok_b) ⟨Nat.zero_le _, Nat.zero_le _⟩ ?_
      exact zPt (fun d d0 d1 => h2 d d0 (by omega))
    · refine zV_aload_n (pc := 11) (i := 0) dX10_comesSo_11 rfl rfl ?_
      refine zV_iload_n (pc := 12) (i := 1) dX10_comesSo_12 rfl rfl ?_
      refine zV_iload_n (pc := 13) (i := 3) dX10_comesSo_13 rfl rfl ?_
      refine zV_ivp (pc := 14) (ci := 10) dX10_comesSo_14 klX10_336 mX10_comes ⟨by decide, rfl⟩ rfl ⟨Nat.zero_le _, Nat.zero_le _⟩ (kX10_comes hS ht hk hm hp hb hh (d := i) (by omega)) (zOb_of rfl) rfl rfl (Nat.le_of_ble_eq_true rfl) ?_
      refine zV_aload_n (pc := 17) (i := 0) dX10_comesSo_17 rfl rfl ?_
      refine zV_iload_n (pc := 18) (i := 2) dX10_comesSo_18 rfl rfl ?_
      refine zV_iload_n (pc := 19) (i := 3) dX10_comesSo_19 rfl rfl ?_
      refine zV_ivp (pc := 20) (ci := 10) dX10_comesSo_20 klX10_405 mX10_isTold ⟨by decide, rfl⟩ rfl ⟨Nat.zero_le _, Nat.zero_le _⟩ (kX10_isTold hS hD (by omega)) (zOb_of rfl) rfl rfl (Nat.le_of_ble_eq_true rfl) ?_
      have z1 := zb_r (zct (zTm M) (M 58 7) i t)
      have z2 := zb_r (∃ j : Int, (0 ≤ j ∧ j < m) ∧ R j = i)
      refine zV_icmp_eq (pc := 23) (tgt := 28) dX10_comesSo_23 (by decide) (by omega) (fun c_23 => ?_) (fun c_23 => ?_)
      · refine zV_iinc (pc := 28) dX10_comesSo_28 rfl rfl ?_
        try dsimp only [List.set_cons_succ, List.set_cons_zero]
        refine zV_goto (pc := 31) (tgt := 2) dX10_comesSo_31 (by decide) ?_
        refine ih (i + 1) (by omega) (by omega) (fun d d0 d1 => ?_)
        by_cases c : d = i
        · rw [c]; exact (zb_e.mp c_23).symm
        · exact h2 d d0 (by omega)
      · refine zV_iconst (pc := 26) dX10_comesSo_26 ?_
        refine zV_iret (pc := 27) dX10_comesSo_27 (by first | exact zok_b1 | exact zok_b0 | exact zok_b) ⟨Nat.zero_le _, Nat.zero_le _⟩ ?_
        exact zPf (fun q => c_23 (zb_e.mpr (q i h1 (by omega)).symm))
set_option maxRecDepth 20000 in
set_option maxHeartbeats 2000000 in
theorem kX10_comesSo (hS : zSt M) {s : Int} {R : Int → Int} {m : Int} (hD : zDj s R m M) {t : Int} (ht : 0 ≤ t ∧ t < 6) (hk : 0 ≤ M 62 t ∧ M 62 t ≤ 5) (hm : 0 ≤ M 63 t ∧ M 63 t ≤ 9) (hp : 1 ≤ M 64 t ∧ M 64 t ≤ 60) (hb : 0 ≤ M 65 t ∧ M 65 t ≤ 59) (hh : 0 ≤ M 58 7 ∧ M 58 7 ≤ 127) : zK g yX10_comesSo xX10_comesSo [zr 58, zi t, zi s] 75 M (zPp (zi (zb (zis R m (fun d => zct (zTm M) (M 58 7) d t)))) 75 M) := by
  refine zK_of (ls0 := [zr 58, zi t, zi s, (3, 0)]) (by decide) rfl (by decide) rfl (Nat.le_of_ble_eq_true rfl) ?_
  refine zV_iconst (pc := 0) dX10_comesSo_0 ?_
  refine zV_istore_n (pc := 1) (i := 3) dX10_comesSo_1 rfl rfl ?_
  try dsimp only [List.set_cons_succ, List.set_cons_zero]
  have hl := (hD.2.2.1 (m - 1) (by have := hD.2.1; omega) (by omega)).1
  exact kX10_csL hS hD ht hk hm hp hb hh (R (m - 1) + 1).toNat 0 (by omega) (by omega) (fun e e0 e1 => absurd e0 (by omega))
set_option maxRecDepth 20000 in
set_option maxHeartbeats 2000000 in
theorem kX10_dyT (hS : zSt M) (hW : zWm M) (hh : 0 ≤ M 58 7 ∧ M 58 7 ≤ 127) {s : Int} {R : Int → Int} {m : Int} (hD : zDj s R m M) {kk t : Int} : ∀ (k : Nat) (i c : Int), i + k = M 58 12 → 0 ≤ i → c = zso (fun i => zis R m (fun d => zct (zTm M) (M 58 7) d i)) i.toNat → zV g xX10_diary (zPp (zi (zso (fun i => zis R m (fun d => zct (zTm M) (M 58 7) d i)) (M 58 12).toNat)) 75 M) 66 [zr 58, zi s, zi kk, zi t, zi c, zi i, (3, 0)] [] 75 M 0 0 := by
  intro k
  induction k with
  | zero =>
    intro i c h0 h1 h2
    have hn := hW.1
    refine zV_iload (pc := 66) dX10_diary_66 rfl ?_
    refine zV_aload_n (pc := 68) (i := 0) dX10_diary_68 rfl rfl ?_
    refine zV_get (pc := 69) (j := 12) dX10_diary_69 flX10_73 (zOb_of rfl) rfl rfl ?_
    refine zV_icmp_ge (pc := 72) (tgt := 104) dX10_diary_72 (by decide) (by omega) (fun c_72 => ?_) (fun c_72 => absurd (by omega) c_72)
    refine zV_iload (pc := 104) dX10_diary_104 rfl ?_
    refine zV_iret (pc := 106) dX10_diary_106 trivial ⟨Nat.zero_le _, Nat.zero_le _⟩ ?_
    have e : i = M 58 12 := by omega
    exact zPe (by rw [h2, e])
  | succ k ih =>
    intro i c h0 h1 h2
    have hn := hW.1
    refine zV_iload (pc := 66) dX10_diary_66 rfl ?_
    refine zV_aload_n (pc := 68) (i := 0) dX10_diary_68 rfl rfl ?_
    refine zV_get (pc := 69) (j := 12) dX10_diary_69 flX10_73 (zOb_of rfl) rfl rfl ?_
    refine zV_icmp_ge (pc := 72) (tgt := 104) dX10_diary_72 (by decide) (by omega) (fun c_72 => absurd c_72 (by omega)) (fun c_72 => ?_)
    refine zV_iload (pc := 75) dX10_diary_75 rfl ?_
    refine zV_aload_n (pc := 77) (i := 0) dX10_diary_77 rfl rfl ?_
    refine zV_iload (pc := 78) dX10_diary_78 rfl ?_
    refine zV_iload_n (pc := 80) (i := 1) dX10_diary_80 rfl rfl ?_
    refine zV_ivp (pc := 81) (ci := 10) dX10_diary_81 klX10_414 mX10_comesSo ⟨by decide, rfl⟩ rfl ⟨Nat.zero_le _, Nat.zero_le _⟩ (kX10_comesSo hS hD (t := i) (by omega) (hW.2 _ (by omega) (by omega)).1 (hW.2 _ (by omega) (by omega)).2.1 (hW.2 _ (by omega) (by omega)).2.2.1 (hW.2 _ (by omega) (by omega)).2.2.2 hh) (zOb_of rfl) rfl rfl (Nat.le_of_ble_eq_true rfl) ?_
    refine zV_if_eqb (pc := 84) (tgt := 91) dX10_diary_84 (by decide) (fun c_84 => ?_) (fun c_84 => ?_)
    · refine zV_iconst (pc := 91) dX10_diary_91 ?_
      refine zV_iload (pc := 92) dX10_diary_92 rfl ?_
      first
        | refine zV_ishl (pc := 94) dX10_diary_94 (z_shl (n := i.toNat) (by omega) (by omega)) ?_
        | refine zV_ishl (pc := 94) dX10_diary_94 (z_shl00 (by omega)) ?_
      first
        | refine zV_ior (pc := 95) dX10_diary_95 (z_or2 (by rw [h2]; exact zso_r _ _)) ?_
        | refine zV_ior (pc := 95) dX10_diary_95 (z_or0 _) ?_
      refine zV_istore (pc := 96) dX10_diary_96 rfl ?_
      try dsimp only [List.set_cons_succ, List.set_cons_zero]
      refine zV_iinc (pc := 98) dX10_diary_98 rfl rfl ?_
      try dsimp only [List.set_cons_succ, List.set_cons_zero]
      refine zV_goto (pc := 101) (tgt := 66) dX10_diary_101 (by decide) ?_
      first
        | exact ih (i + 1) _ (by omega) (by omega) (by rw [h2]; exact (zso_t (q := (fun i => zis R m (fun d => zct (zTm M) (M 58 7) d i))) (by omega) c_84).symm)
        | exact ih (i + 1) _ (by omega) (by omega) (by rw [h2]; exact (zso_f (q := (fun i => zis R m (fun d => zct (zTm M) (M 58 7) d i))) (by omega) c_84).symm)
    · refine zV_iconst (pc := 87) dX10_diary_87 ?_
      refine zV_goto (pc := 88) (tgt := 92) dX10_diary_88 (by decide) ?_
      refine zV_iload (pc := 92) dX10_diary_92 rfl ?_
      first
        | refine zV_ishl (pc := 94) dX10_diary_94 (z_shl (n := i.toNat) (by omega) (by omega)) ?_
        | refine zV_ishl (pc := 94) dX10_diary_94 (z_shl00 (by omega)) ?_
      first
        | refine zV_ior (pc := 95) dX10_diary_95 (z_or2 (by rw [h2]; exact zso_r _ _)) ?_
        | refine zV_ior (pc := 95) dX10_diary_95 (z_or0 _) ?_
      refine zV_istore (pc := 96) dX10_diary_96 rfl ?_
      try dsimp only [List.set_cons_succ, List.set_cons_zero]
      refine zV_iinc (pc := 98) dX10_diary_98 rfl rfl ?_
      try dsimp only [List.set_cons_succ, List.set_cons_zero]
      refine zV_goto (pc := 101) (tgt := 66) dX10_diary_101 (by decide) ?_
      first
        | exact ih (i + 1) _ (by omega) (by omega) (by rw [h2]; exact (zso_t (q := (fun i => zis R m (fun d => zct (zTm M) (M 58 7) d i))) (by omega) c_84).symm)
        | exact ih (i + 1) _ (by omega) (by omega) (by rw [h2]; exact (zso_f (q := (fun i => zis R m (fun d => zct (zTm M) (M 58 7) d i))) (by omega) c_84).symm)
theorem zTm_k {M : zM} {t v i f : Int} (h : ¬ (f = 0 ∧ i = t)) (hf : 0 ≤ f ∧ f ≤ 3) : zTm (zU M 62 t v) i f = zTm M i f := by
  show zU M 62 t v (62 + f) i = M (62 + f) i
  by_cases c : f = 0
  · exact zU_j _ _ _ _ (by omega) |> fun (e : zU M 62 t v (62 + f) i = M (62 + f) i) => e
  · exact zU_a _ _ _ _ (by omega)
set_option maxRecDepth 20000 in
set_option maxHeartbeats 2000000 in
theorem kX10_dyK (hS : zSt M) (hW : zWm M) (hh : 0 ≤ M 58 7 ∧ M 58 7 ≤ 127) {s : Int} {R : Int → Int} {m : Int} (hD : zDj s R m M) {t : Int} (ht : 0 ≤ t ∧ t < M 58 12) : ∀ (k : Nat) (i c v : Int), i + k = 6 → 0 ≤ i → c = zso (fun kd => zis R m (fun d => zcm kd (zTm M t 1) (zTm M t 2) (zTm M t 3) (M 58 7) d)) i.toNat → zV g xX10_diary (zPp (zi (zso (fun kd => zis R m (fun d => zcm kd (zTm M t 1) (zTm M t 2) (zTm M t 3) (M 58 7) d)) 6)) 75 M) 118 [zr 58, zi s, zi 1, zi t, zi c, zi (M 62 t), zi i] [] 75 (zU M 62 t v) 0 0 := by
  intro k
  induction k with
  | zero =>
    intro i c v h0 h1 h2
    have hn := hW.1
    have ti := hW.2 t ht.1 ht.2
    have hS1 : zSt (zU M 62 t v) := hS.fr (C := fun a _ => a = 62) (zFr.up zFr.rf rfl) (by decide)
    refine zV_iload (pc := 118) dX10_diary_118 rfl ?_
    refine zV_iconst (pc := 120) dX10_diary_120 ?_
    refine zV_icmp_gt (pc := 121) (tgt := 160) dX10_diary_121 (by decide) (by omega) (fun c_121 => ?_) (fun c_121 => absurd (by omega) c_121)
    refine zV_aload_n (pc := 160) (i := 0) dX10_diary_160 rfl rfl ?_
    refine zV_get (pc := 161) (j := 8) dX10_diary_161 flX10_23 (zOb_of rfl) rfl hS1.e58_8 ?_
    refine zV_iload_n (pc := 164) (i := 3) dX10_diary_164 rfl rfl ?_
    refine zV_iload (pc := 165) dX10_diary_165 rfl ?_
    refine zV_iast (pc := 167) dX10_diary_167 (zAr_of rfl : zAr 75 62 0 6) (by omega) ?_
    refine zV_iload (pc := 168) dX10_diary_168 rfl ?_
    refine zV_iret (pc := 170) dX10_diary_170 trivial ⟨Nat.zero_le _, Nat.zero_le _⟩ ?_
    have e : i = 6 := by omega
    rw [zU_uu, show (M 62 t : Int) = M 62 t from rfl, zU_id]
    exact zPe (by rw [h2, e]; rfl)
  | succ k ih =>
    intro i c v h0 h1 h2
    have hn := hW.1
    have ti := hW.2 t ht.1 ht.2
    have hS1 : zSt (zU M 62 t v) := hS.fr (C := fun a _ => a = 62) (zFr.up zFr.rf rfl) (by decide)
    refine zV_iload (pc := 118) dX10_diary_118 rfl ?_
    refine zV_iconst (pc := 120) dX10_diary_120 ?_
    refine zV_icmp_gt (pc := 121) (tgt := 160) dX10_diary_121 (by decide) (by omega) (fun c_121 => absurd c_121 (by omega)) (fun c_121 => ?_)
    refine zV_aload_n (pc := 124) (i := 0) dX10_diary_124 rfl rfl ?_
    refine zV_get (pc := 125) (j := 8) dX10_diary_125 flX10_23 (zOb_of rfl) rfl hS1.e58_8 ?_
    refine zV_iload_n (pc := 128) (i := 3) dX10_diary_128 rfl rfl ?_
    refine zV_iload (pc := 129) dX10_diary_129 rfl ?_
    refine zV_iast (pc := 131) dX10_diary_131 (zAr_of rfl : zAr 75 62 0 6) (by omega) ?_
    rw [zU_uu]
    have hS2 : zSt (zU M 62 t i) := hS.fr (C := fun a _ => a = 62) (zFr.up zFr.rf rfl) (by decide)
    have hD2 : zDj s R m (zU M 62 t i) := hD.fr (zFr.up (C := fun a _ => a = 62) zFr.rf rfl) (fun a j (y : a = 62) => by omega)
    have eq : (zis R m (fun d => zct (zTm (zU M 62 t i)) (zU M 62 t i 58 7) d t)) = zis R m (fun d => zcm i (zTm M t 1) (zTm M t 2) (zTm M t 3) (M 58 7) d) := by
      have e0 : zTm (zU M 62 t i) t 0 = i := zU_s _ _ _ _
      unfold zct
      rw [e0, zTm_k (f := 1) (by omega) (by decide), zTm_k (f := 2) (by omega) (by decide), zTm_k (f := 3) (by omega) (by decide), zU_a M 62 t i (show (58 : Int) ≠ 62 by decide)]
    refine zV_iload (pc := 132) dX10_diary_132 rfl ?_
    refine zV_aload_n (pc := 134) (i := 0) dX10_diary_134 rfl rfl ?_
    refine zV_iload_n (pc := 135) (i := 3) dX10_diary_135 rfl rfl ?_
    refine zV_iload_n (pc := 136) (i := 1) dX10_diary_136 rfl rfl ?_
    refine zV_ivp (pc := 137) (ci := 10) dX10_diary_137 klX10_414 mX10_comesSo ⟨by decide, rfl⟩ rfl ⟨Nat.zero_le _, Nat.zero_le _⟩ (kX10_comesSo hS2 hD2 (t := t) (by omega) (by rw [zU_s]; omega) (by rw [zU_a _ _ _ _ (by decide)]; exact ti.2.1) (by rw [zU_a _ _ _ _ (by decide)]; exact ti.2.2.1) (by rw [zU_a _ _ _ _ (by decide)]; exact ti.2.2.2) (by rw [zU_a _ _ _ _ (by decide)]; exact hh)) (zOb_of rfl) rfl rfl (Nat.le_of_ble_eq_true rfl) ?_
    rw [eq]
    refine zV_if_eqb (pc := 140) (tgt := 147) dX10_diary_140 (by decide) (fun c_140 => ?_) (fun c_140 => ?_)
    · refine zV_iconst (pc := 147) dX10_diary_147 ?_
      refine zV_iload (pc := 148) dX10_diary_148 rfl ?_
      first
        | refine zV_ishl (pc := 150) dX10_diary_150 (z_shl (n := i.toNat) (by omega) (by omega)) ?_
        | refine zV_ishl (pc := 150) dX10_diary_150 (z_shl00 (by omega)) ?_
      first
        | refine zV_ior (pc := 151) dX10_diary_151 (z_or2 (by rw [h2]; exact zso_r _ _)) ?_
        | refine zV_ior (pc := 151) dX10_diary_151 (z_or0 _) ?_
      refine zV_istore (pc := 152) dX10_diary_152 rfl ?_
      try dsimp only [List.set_cons_succ, List.set_cons_zero]
      refine zV_iinc (pc := 154) dX10_diary_154 rfl rfl ?_
      try dsimp only [List.set_cons_succ, List.set_cons_zero]
      refine zV_goto (pc := 157) (tgt := 118) dX10_diary_157 (by decide) ?_
      first
        | exact ih (i + 1) _ i (by omega) (by omega) (by rw [h2]; exact (zso_t (q := (fun kd => zis R m (fun d => zcm kd (zTm M t 1) (zTm M t 2) (zTm M t 3) (M 58 7) d))) (by omega) c_140).symm)
        | exact ih (i + 1) _ i (by omega) (by omega) (by rw [h2]; exact (zso_f (q := (fun kd => zis R m (fun d => zcm kd (zTm M t 1) (zTm M t 2) (zTm M t 3) (M 58 7) d))) (by omega) c_140).symm)
    · refine zV_iconst (pc := 143) dX10_diary_143 ?_
      refine zV_goto (pc := 144) (tgt := 148) dX10_diary_144 (by decide) ?_
      refine zV_iload (pc := 148) dX10_diary_148 rfl ?_
      first
        | refine zV_ishl (pc := 150) dX10_diary_150 (z_shl (n := i.toNat) (by omega) (by omega)) ?_
        | refine zV_ishl (pc := 150) dX10_diary_150 (z_shl00 (by omega)) ?_
      first
        | refine zV_ior (pc := 151) dX10_diary_151 (z_or2 (by rw [h2]; exact zso_r _ _)) ?_
        | refine zV_ior (pc := 151) dX10_diary_151 (z_or0 _) ?_
      refine zV_istore (pc := 152) dX10_diary_152 rfl ?_
      try dsimp only [List.set_cons_succ, List.set_cons_zero]
      refine zV_iinc (pc := 154) dX10_diary_154 rfl rfl ?_
      try dsimp only [List.set_cons_succ, List.set_cons_zero]
      refine zV_goto (pc := 157) (tgt := 118) dX10_diary_157 (by decide) ?_
      first
        | exact ih (i + 1) _ i (by omega) (by omega) (by rw [h2]; exact (zso_t (q := (fun kd => zis R m (fun d => zcm kd (zTm M t 1) (zTm M t 2) (zTm M t 3) (M 58 7) d))) (by omega) c_140).symm)
        | exact ih (i + 1) _ i (by omega) (by omega) (by rw [h2]; exact (zso_f (q := (fun kd => zis R m (fun d => zcm kd (zTm M t 1) (zTm M t 2) (zTm M t 3) (M 58 7) d))) (by omega) c_140).symm)
theorem zif_r50 {q : Prop} : -2 ≤ zif q 0 (-2) ∧ zif q 0 (-2) ≤ 0 := by
  by_cases c : q
  · rw [zif_t c]
    decide
  · rw [zif_f c]
    decide
noncomputable def zdiG (M : zM) (s k t : Int) : Int := zif ((0 ≤ s ∧ s ≤ 3) ∧ (0 ≤ k ∧ k ≤ 1) ∧ (k = 1 → 0 ≤ t ∧ t < M 58 12)) (zif (M 71 s = 0) (-11) (zif ((1 ≤ M 73 s ∧ M 73 s ≤ 20) ∧ zdo (fun e => M 74 (40 * s + e)) (M 73 s)) (if k = 0 then zso (fun i => zis (fun e => M 74 (40 * s + e)) (M 73 s) (fun d => zct (zTm M) (M 58 7) d i)) (M 58 12).toNat else zso (fun kd => zis (fun e => M 74 (40 * s + e)) (M 73 s) (fun d => zcm kd (zTm M t 1) (zTm M t 2) (zTm M t 3) (M 58 7) d)) 6) (-2))) (-2)
set_option maxRecDepth 20000 in
set_option maxHeartbeats 2000000 in
theorem kX10_diary (hS : zSt M) (hW : zWm M) (hh : 0 ≤ M 58 7 ∧ M 58 7 ≤ 127) (hG : zShg M) {s k t : Int} (hs : -2147483648 ≤ s ∧ s ≤ 2147483647) (hk : -2147483648 ≤ k ∧ k ≤ 2147483647) (ht : -2147483648 ≤ t ∧ t ≤ 2147483647) : zK g yX10_diary xX10_diary [zr 58, zi s, zi k, zi t] 75 M (zPp (zi (zdiG M s k t)) 75 M) := by
  refine zK_of (ls0 := [zr 58, zi s, zi k, zi t, (3, 0), (3, 0), (3, 0)]) (by decide) rfl (by decide) rfl (Nat.le_of_ble_eq_true rfl) ?_
  have hn := hW.1
  refine zV_iload_n (pc := 0) (i := 1) dX10_diary_0 rfl rfl ?_
  refine zV_isp (pc := 1) dX10_diary_1 klX10_408 mX10_isSheet rfl ⟨Nat.zero_le _, Nat.zero_le _⟩ (kX10_isSheet (by omega)) rfl rfl (Nat.le_of_ble_eq_true rfl) ?_
  refine zV_if_eqb (pc := 4) (tgt := 30) dX10_diary_4 (by decide) (fun c_4 => ?_) (fun c_4 => ?_)
  · refine zV_bipush (pc := 30) dX10_diary_30 (by decide) ?_
    refine zV_iret (pc := 32) dX10_diary_32 trivial ⟨Nat.zero_le _, Nat.zero_le _⟩ ?_
    refine zPe (zif_f (fun q => ?_)).symm
    first
      | exact c_4 q.1
      | exact c_14 q.2.1
      | exact c_27 (q.2.2 (by omega))
  · refine zV_iload_n (pc := 7) (i := 2) dX10_diary_7 rfl rfl ?_
    refine zV_i2l (pc := 8) dX10_diary_8 (by omega) ?_
    refine zV_lconst0 (pc := 9) dX10_diary_9 ?_
    refine zV_lconst1 (pc := 10) dX10_diary_10 ?_
    refine zV_isp (pc := 11) dX10_diary_11 klX10_76 mX10_in rfl ⟨Nat.zero_le _, Nat.zero_le _⟩ (kX10_in (by omega) (by omega) (by omega)) rfl rfl (Nat.le_of_ble_eq_true rfl) ?_
    refine zV_if_eqb (pc := 14) (tgt := 30) dX10_diary_14 (by decide) (fun c_14 => ?_) (fun c_14 => ?_)
    · refine zV_bipush (pc := 30) dX10_diary_30 (by decide) ?_
      refine zV_iret (pc := 32) dX10_diary_32 trivial ⟨Nat.zero_le _, Nat.zero_le _⟩ ?_
      refine zPe (zif_f (fun q => ?_)).symm
      first
        | exact c_4 q.1
        | exact c_14 q.2.1
        | exact c_27 (q.2.2 (by omega))
    · refine zV_iload_n (pc := 17) (i := 2) dX10_diary_17 rfl rfl ?_
      refine zV_iconst (pc := 18) dX10_diary_18 ?_
      refine zV_icmp_ne (pc := 19) (tgt := 33) dX10_diary_19 (by decide) (by omega) (fun c_19 => ?_) (fun c_19 => ?_)
      · have hg := hG.1 s (by omega) (by omega)
        refine zV_aload_n (pc := 33) (i := 0) dX10_diary_33 rfl rfl ?_
        refine zV_get (pc := 34) (j := 39) dX10_diary_34 flX10_54 (zOb_of rfl) rfl hS.e58_39 ?_
        refine zV_iload_n (pc := 37) (i := 1) dX10_diary_37 rfl rfl ?_
        refine zV_zald (pc := 38) dX10_diary_38 (zAr_of rfl : zAr 75 71 1 4) (by omega) rfl ?_
        refine zV_if_ne (pc := 39) (tgt := 45) dX10_diary_39 (by decide) (by omega) (fun c_39 => ?_) (fun c_39 => ?_)
        · refine zV_aload_n (pc := 45) (i := 0) dX10_diary_45 rfl rfl ?_
          refine zV_iload_n (pc := 46) (i := 1) dX10_diary_46 rfl rfl ?_
          refine zV_ivp (pc := 47) (ci := 10) dX10_diary_47 klX10_411 mX10_diaryBad ⟨by decide, rfl⟩ rfl ⟨Nat.zero_le _, Nat.zero_le _⟩ (kX10_diaryBad hS hG (s := s) (R := (fun e => M 74 (40 * s + e))) (m := M 73 s) (by omega) (fun j e q => by rw [q]) rfl (by omega)) (zOb_of rfl) rfl rfl (Nat.le_of_ble_eq_true rfl) ?_
          refine zV_if_eq (pc := 50) (tgt := 56) dX10_diary_50 (by decide) (by have := zif_r50 (q := ((1 ≤ M 73 s ∧ M 73 s ≤ 20) ∧ zdo (fun e => M 74 (40 * s + e)) (M 73 s))); omega) (fun c_50 => ?_) (fun c_50 => ?_)
          · have hq : ((1 ≤ M 73 s ∧ M 73 s ≤ 20) ∧ zdo (fun e => M 74 (40 * s + e)) (M 73 s)) := Classical.byContradiction (fun q => by rw [zif_f q] at c_50; exact absurd c_50 (by decide))
            have hD : zDj s (fun e => M 74 (40 * s + e)) (M 73 s) M := ⟨by omega, hq.1, hq.2, rfl, fun j e _ _ q => by rw [q]⟩
            refine zV_iconst (pc := 56) dX10_diary_56 ?_
            refine zV_istore (pc := 57) dX10_diary_57 rfl ?_
            try dsimp only [List.set_cons_succ, List.set_cons_zero]
            refine zV_iload_n (pc := 59) (i := 2) dX10_diary_59 rfl rfl ?_
            refine zV_if_ne (pc := 60) (tgt := 107) dX10_diary_60 (by decide) (by omega) (fun c_60 => ?_) (fun c_60 => ?_)
            · refine zV_aload_n (pc := 107) (i := 0) dX10_diary_107 rfl rfl ?_
              refine zV_get (pc := 108) (j := 8) dX10_diary_108 flX10_23 (zOb_of rfl) rfl hS.e58_8 ?_
              refine zV_iload_n (pc := 111) (i := 3) dX10_diary_111 rfl rfl ?_
              refine zV_iald (pc := 112) dX10_diary_112 (zAr_of rfl : zAr 75 62 0 6) (by omega) rfl ?_
              refine zV_istore (pc := 113) dX10_diary_113 rfl ?_
              try dsimp only [List.set_cons_succ, List.set_cons_zero]
              refine zV_iconst (pc := 115) dX10_diary_115 ?_
              refine zV_istore (pc := 116) dX10_diary_116 rfl ?_
              try dsimp only [List.set_cons_succ, List.set_cons_zero]
              have e1 : k = 1 := by omega
              subst e1
              have e9 := kX10_dyK (g := g) hS hW hh hD (t := t) (by omega) 6 0 0 (M 62 t) (by omega) (by omega) rfl
              rw [zU_id] at e9
              refine e9.mono ?_
              rintro v N9 M9 ⟨rfl, rfl, rfl⟩
              exact zPe (Eq.trans (by rw [if_neg (by omega)]) ((zif_t ⟨c_4, c_14, fun e => by first | exact c_27 | omega⟩).trans ((zif_f c_39).trans (zif_t hq))).symm)
            · refine zV_iconst (pc := 63) dX10_diary_63 ?_
              refine zV_istore (pc := 64) dX10_diary_64 rfl ?_
              try dsimp only [List.set_cons_succ, List.set_cons_zero]
              refine (kX10_dyT hS hW hh hD (M 58 12).toNat 0 0 (by omega) (by omega) rfl).mono ?_
              rintro v N9 M9 ⟨rfl, rfl, rfl⟩
              exact zPe (Eq.trans (by rw [if_pos (by omega)]) ((zif_t ⟨c_4, c_14, fun e => by first | exact c_27 | omega⟩).trans ((zif_f c_39).trans (zif_t hq))).symm)
          · refine zV_bipush (pc := 53) dX10_diary_53 (by decide) ?_
            refine zV_iret (pc := 55) dX10_diary_55 trivial ⟨Nat.zero_le _, Nat.zero_le _⟩ ?_
            refine zPe ((zif_t ⟨c_4, c_14, fun e => by first | exact c_27 | omega⟩).trans ((zif_f c_39).trans (zif_f (fun q => ?_)))).symm
            rw [zif_t q] at c_50
            exact c_50 rfl
        · refine zV_bipush (pc := 42) dX10_diary_42 (by decide) ?_
          refine zV_iret (pc := 44) dX10_diary_44 trivial ⟨Nat.zero_le _, Nat.zero_le _⟩ ?_
          exact zPe ((zif_t ⟨c_4, c_14, fun e => by first | exact c_27 | omega⟩).trans (zif_t c_39)).symm
      · refine zV_aload_n (pc := 22) (i := 0) dX10_diary_22 rfl rfl ?_
        refine zV_iload_n (pc := 23) (i := 3) dX10_diary_23 rfl rfl ?_
        refine zV_ivp (pc := 24) (ci := 10) dX10_diary_24 klX10_84 mX10_isThing ⟨by decide, rfl⟩ rfl ⟨Nat.zero_le _, Nat.zero_le _⟩ (kX10_isThing hn (by omega)) (zOb_of rfl) rfl rfl (Nat.le_of_ble_eq_true rfl) ?_
        refine zV_if_neb (pc := 27) (tgt := 33) dX10_diary_27 (by decide) (fun c_27 => ?_) (fun c_27 => ?_)
        · have hg := hG.1 s (by omega) (by omega)
          refine zV_aload_n (pc := 33) (i := 0) dX10_diary_33 rfl rfl ?_
          refine zV_get (pc := 34) (j := 39) dX10_diary_34 flX10_54 (zOb_of rfl) rfl hS.e58_39 ?_
          refine zV_iload_n (pc := 37) (i := 1) dX10_diary_37 rfl rfl ?_
          refine zV_zald (pc := 38) dX10_diary_38 (zAr_of rfl : zAr 75 71 1 4) (by omega) rfl ?_
          refine zV_if_ne (pc := 39) (tgt := 45) dX10_diary_39 (by decide) (by omega) (fun c_39 => ?_) (fun c_39 => ?_)
          · refine zV_aload_n (pc := 45) (i := 0) dX10_diary_45 rfl rfl ?_
            refine zV_iload_n (pc := 46) (i := 1) dX10_diary_46 rfl rfl ?_
            refine zV_ivp (pc := 47) (ci := 10) dX10_diary_47 klX10_411 mX10_diaryBad ⟨by decide, rfl⟩ rfl ⟨Nat.zero_le _, Nat.zero_le _⟩ (kX10_diaryBad hS hG (s := s) (R := (fun e => M 74 (40 * s + e))) (m := M 73 s) (by omega) (fun j e q => by rw [q]) rfl (by omega)) (zOb_of rfl) rfl rfl (Nat.le_of_ble_eq_true rfl) ?_
            refine zV_if_eq (pc := 50) (tgt := 56) dX10_diary_50 (by decide) (by have := zif_r50 (q := ((1 ≤ M 73 s ∧ M 73 s ≤ 20) ∧ zdo (fun e => M 74 (40 * s + e)) (M 73 s))); omega) (fun c_50 => ?_) (fun c_50 => ?_)
            · have hq : ((1 ≤ M 73 s ∧ M 73 s ≤ 20) ∧ zdo (fun e => M 74 (40 * s + e)) (M 73 s)) := Classical.byContradiction (fun q => by rw [zif_f q] at c_50; exact absurd c_50 (by decide))
              have hD : zDj s (fun e => M 74 (40 * s + e)) (M 73 s) M := ⟨by omega, hq.1, hq.2, rfl, fun j e _ _ q => by rw [q]⟩
              refine zV_iconst (pc := 56) dX10_diary_56 ?_
              refine zV_istore (pc := 57) dX10_diary_57 rfl ?_
              try dsimp only [List.set_cons_succ, List.set_cons_zero]
              refine zV_iload_n (pc := 59) (i := 2) dX10_diary_59 rfl rfl ?_
              refine zV_if_ne (pc := 60) (tgt := 107) dX10_diary_60 (by decide) (by omega) (fun c_60 => ?_) (fun c_60 => ?_)
              · refine zV_aload_n (pc := 107) (i := 0) dX10_diary_107 rfl rfl ?_
                refine zV_get (pc := 108) (j := 8) dX10_diary_108 flX10_23 (zOb_of rfl) rfl hS.e58_8 ?_
                refine zV_iload_n (pc := 111) (i := 3) dX10_diary_111 rfl rfl ?_
                refine zV_iald (pc := 112) dX10_diary_112 (zAr_of rfl : zAr 75 62 0 6) (by omega) rfl ?_
                refine zV_istore (pc := 113) dX10_diary_113 rfl ?_
                try dsimp only [List.set_cons_succ, List.set_cons_zero]
                refine zV_iconst (pc := 115) dX10_diary_115 ?_
                refine zV_istore (pc := 116) dX10_diary_116 rfl ?_
                try dsimp only [List.set_cons_succ, List.set_cons_zero]
                have e1 : k = 1 := by omega
                subst e1
                have e9 := kX10_dyK (g := g) hS hW hh hD (t := t) (by omega) 6 0 0 (M 62 t) (by omega) (by omega) rfl
                rw [zU_id] at e9
                refine e9.mono ?_
                rintro v N9 M9 ⟨rfl, rfl, rfl⟩
                exact zPe (Eq.trans (by rw [if_neg (by omega)]) ((zif_t ⟨c_4, c_14, fun e => by first | exact c_27 | omega⟩).trans ((zif_f c_39).trans (zif_t hq))).symm)
              · refine zV_iconst (pc := 63) dX10_diary_63 ?_
                refine zV_istore (pc := 64) dX10_diary_64 rfl ?_
                try dsimp only [List.set_cons_succ, List.set_cons_zero]
                refine (kX10_dyT hS hW hh hD (M 58 12).toNat 0 0 (by omega) (by omega) rfl).mono ?_
                rintro v N9 M9 ⟨rfl, rfl, rfl⟩
                exact zPe (Eq.trans (by rw [if_pos (by omega)]) ((zif_t ⟨c_4, c_14, fun e => by first | exact c_27 | omega⟩).trans ((zif_f c_39).trans (zif_t hq))).symm)
            · refine zV_bipush (pc := 53) dX10_diary_53 (by decide) ?_
              refine zV_iret (pc := 55) dX10_diary_55 trivial ⟨Nat.zero_le _, Nat.zero_le _⟩ ?_
              refine zPe ((zif_t ⟨c_4, c_14, fun e => by first | exact c_27 | omega⟩).trans ((zif_f c_39).trans (zif_f (fun q => ?_)))).symm
              rw [zif_t q] at c_50
              exact c_50 rfl
          · refine zV_bipush (pc := 42) dX10_diary_42 (by decide) ?_
            refine zV_iret (pc := 44) dX10_diary_44 trivial ⟨Nat.zero_le _, Nat.zero_le _⟩ ?_
            exact zPe ((zif_t ⟨c_4, c_14, fun e => by first | exact c_27 | omega⟩).trans (zif_t c_39)).symm
        · refine zV_bipush (pc := 30) dX10_diary_30 (by decide) ?_
          refine zV_iret (pc := 32) dX10_diary_32 trivial ⟨Nat.zero_le _, Nat.zero_le _⟩ ?_
          refine zPe (zif_f (fun q => ?_)).symm
          first
            | exact c_4 q.1
            | exact c_14 q.2.1
            | exact c_27 (q.2.2 (by omega))
end
