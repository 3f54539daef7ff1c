/-! DIARIES: one round, two rounds (printed by wip/whole/p36.py) -/
section
variable {g : zG} {N : Nat} {M : zM}
set_option maxRecDepth 20000 in
set_option maxHeartbeats 2000000 in
theorem kX1_trL (hS : zSt M) {R : Int → Int} {m : Int} (hD : zDi R m M) {b p : Int} (hb : 0 ≤ b ∧ b < 400) (hp : 1 ≤ p ∧ p ≤ 60) : ∀ (k : Nat) (e x : Int), M 21 3 + 1 - x ≤ k → 0 ≤ e → x = b + e * p → (0 ≤ x ∧ x ≤ 460) → (∀ j : Int, 0 ≤ j → j < e → M 23 (b + j * p) = 1) → zV g xX1_tellsRound (zPp (zi (zb (ztr (M 23) (M 21 3) b p))) 75 M) 2 [zr 21, zi b, zi p, zi x] [] 75 M 0 0 := by
  intro k
  induction k with
  | zero =>
    intro e x h0 h1 h2 h3 h4
    obtain ⟨hm, ho, hr, e1, e2, e3, ht⟩ := id hD
    have hl := (ho (m - 1) (by omega) (by omega)).1
    have h00 := (ho 0 (by omega) (by omega)).1
    refine zV_iload_n (pc := 2) (i := 2) dX1_tellsRound_2 rfl rfl ?_
    refine zV_if_le (pc := 3) (tgt := 32) dX1_tellsRound_3 (by decide) (by omega) (fun c_3 => absurd c_3 (by omega)) (fun c_3 => ?_)
    refine zV_iload_n (pc := 6) (i := 3) dX1_tellsRound_6 rfl rfl ?_
    refine zV_aload_n (pc := 7) (i := 0) dX1_tellsRound_7 rfl rfl ?_
    refine zV_get (pc := 8) (j := 3) dX1_tellsRound_8 flX1_35 (zOb_of rfl) rfl rfl ?_
    refine zV_icmp_gt (pc := 11) (tgt := 32) dX1_tellsRound_11 (by decide) (by omega) (fun c_11 => ?_) (fun c_11 => absurd (by omega) c_11)
    refine zV_iconst (pc := 32) dX1_tellsRound_32 ?_
    refine zV_iret (pc := 33) dX1_tellsRound_33 (by first | exact zok_b1 | exact zok_b0 | exact zok_b) ⟨Nat.zero_le _, Nat.zero_le _⟩ ?_
    refine zPt (fun j j0 j1 => h4 j j0 ?_)
    by_cases hc : j < e
    · exact hc
    · exfalso
      have : e * p ≤ j * p := Int.mul_le_mul_of_nonneg_right (by omega) (by omega)
      omega
  | succ k ih =>
    intro e x h0 h1 h2 h3 h4
    obtain ⟨hm, ho, hr, e1, e2, e3, ht⟩ := id hD
    have hl := (ho (m - 1) (by omega) (by omega)).1
    have h00 := (ho 0 (by omega) (by omega)).1
    refine zV_iload_n (pc := 2) (i := 2) dX1_tellsRound_2 rfl rfl ?_
    refine zV_if_le (pc := 3) (tgt := 32) dX1_tellsRound_3 (by decide) (by omega) (fun c_3 => absurd c_3 (by omega)) (fun c_3 => ?_)
    refine zV_iload_n (pc := 6) (i := 3) dX1_tellsRound_6 rfl rfl ?_
    refine zV_aload_n (pc := 7) (i := 0) dX1_tellsRound_7 rfl rfl ?_
    refine zV_get (pc := 8) (j := 3) dX1_tellsRound_8 flX1_35 (zOb_of rfl) rfl rfl ?_
    refine zV_icmp_gt (pc := 11) (tgt := 32) dX1_tellsRound_11 (by decide) (by omega) (fun c_11 => ?_) (fun c_11 => ?_)
    · refine zV_iconst (pc := 32) dX1_tellsRound_32 ?_
      refine zV_iret (pc := 33) dX1_tellsRound_33 (by first | exact zok_b1 | exact zok_b0 | exact zok_b) ⟨Nat.zero_le _, Nat.zero_le _⟩ ?_
      refine zPt (fun j j0 j1 => h4 j j0 ?_)
      by_cases hc : j < e
      · exact hc
      · exfalso
        have : e * p ≤ j * p := Int.mul_le_mul_of_nonneg_right (by omega) (by omega)
        omega
    · refine zV_aload_n (pc := 14) (i := 0) dX1_tellsRound_14 rfl rfl ?_
      refine zV_get (pc := 15) (j := 4) dX1_tellsRound_15 flX1_15 (zOb_of rfl) rfl hS.e21_4 ?_
      refine zV_iload_n (pc := 18) (i := 3) dX1_tellsRound_18 rfl rfl ?_
      refine zV_zald (pc := 19) dX1_tellsRound_19 (zAr_of rfl : zAr 75 23 1 400) (by omega) rfl ?_
      have tx := (ht x (by omega) (by omega)).1
      refine zV_if_ne (pc := 20) (tgt := 25) dX1_tellsRound_20 (by decide) (by omega) (fun c_20 => ?_) (fun c_20 => ?_)
      · refine zV_iload_n (pc := 25) (i := 3) dX1_tellsRound_25 rfl rfl ?_
        refine zV_iload_n (pc := 26) (i := 2) dX1_tellsRound_26 rfl rfl ?_
        refine zV_iadd (pc := 27) dX1_tellsRound_27 ?_
        refine zV_istore_n (pc := 28) (i := 3) dX1_tellsRound_28 rfl rfl ?_
        try dsimp only [List.set_cons_succ, List.set_cons_zero]
        refine zV_goto (pc := 29) (tgt := 2) dX1_tellsRound_29 (by decide) ?_
        refine ih (e + 1) (x + p) (by omega) (by omega) (by rw [h2, Int.add_mul]; omega) (by omega) (fun j j0 j1 => ?_)
        by_cases ej : j = e
        · subst ej
          rw [← h2]
          omega
        · exact h4 j j0 (by omega)
      · refine zV_iconst (pc := 23) dX1_tellsRound_23 ?_
        refine zV_iret (pc := 24) dX1_tellsRound_24 (by first | exact zok_b1 | exact zok_b0 | exact zok_b) ⟨Nat.zero_le _, Nat.zero_le _⟩ ?_
        exact zPf (fun q => by have := q e h1 (by omega); rw [← h2] at this; omega)
set_option maxRecDepth 20000 in
set_option maxHeartbeats 2000000 in
theorem kX1_tellsRound (hS : zSt M) {R : Int → Int} {m : Int} (hD : zDi R m M) {b p : Int} (hb : 0 ≤ b ∧ b < 400) (hp : 1 ≤ p ∧ p ≤ 60) : zK g yX1_tellsRound xX1_tellsRound [zr 21, zi b, zi p] 75 M (zPp (zi (zb (ztr (M 23) (M 21 3) b p))) 75 M) := by
  refine zK_of (ls0 := [zr 21, zi b, zi p, (3, 0)]) (by decide) rfl (by decide) rfl (Nat.le_of_ble_eq_true rfl) ?_
  obtain ⟨hm, ho, hr, e1, e2, e3, ht⟩ := id hD
  have hl := (ho (m - 1) (by omega) (by omega)).1
  have h00 := (ho 0 (by omega) (by omega)).1
  refine zV_iload_n (pc := 0) (i := 1) dX1_tellsRound_0 rfl rfl ?_
  refine zV_istore_n (pc := 1) (i := 3) dX1_tellsRound_1 rfl rfl ?_
  try dsimp only [List.set_cons_succ, List.set_cons_zero]
  exact kX1_trL hS hD hb hp 401 0 b (by omega) (by omega) (by omega) (by omega) (fun j j0 j1 => absurd j0 (by omega))
theorem zfo_b {R : Int → Int} {b p m : Int} (h : ∀ j : Int, 0 ≤ j → j < m → 0 ≤ R j ∧ R j < 400) : ∀ (k : Nat) (i : Int), 0 ≤ i → i + k = m → -1 ≤ zfo R b p i k ∧ zfo R b p i k < 400 := by
  intro k
  induction k with
  | zero =>
    intro i _ _
    exact ⟨by show (-1 : Int) ≤ -1; decide, by show (-1 : Int) < 400; decide⟩
  | succ k ih =>
    intro i i0 i1
    have a := ih (i + 1) (by omega) (by omega)
    have c := h i i0 (by omega)
    show -1 ≤ zif (zbh (R i) b p) (zfo R b p (i + 1) k) (R i) ∧ zif (zbh (R i) b p) (zfo R b p (i + 1) k) (R i) < 400
    by_cases hc : zbh (R i) b p
    · rw [zif_t hc]
      exact a
    · rw [zif_f hc]
      omega
/-- of the periods 1 .. n: how many tell the rest, from day c on -/
noncomputable def zse (f R : Int → Int) (l m p c : Int) : Nat → Int
  | 0 => 0
  | n + 1 => zse f R l m p c n + zb (ztr f l c (n + 1) ∧ ∀ j : Int, 0 ≤ j → j < m → (zbh (R j) (R 0) p ∨ zbh (R j) c (n + 1)))
theorem zse_b {f R : Int → Int} {l m p c : Int} : ∀ n : Nat, 0 ≤ zse f R l m p c n ∧ zse f R l m p c n ≤ n := by
  intro n
  induction n with
  | zero => exact ⟨by show (0 : Int) ≤ 0; decide, by show (0 : Int) ≤ 0; decide⟩
  | succ n ih =>
    have := zb_r (ztr f l c (n + 1) ∧ ∀ j : Int, 0 ≤ j → j < m → (zbh (R j) (R 0) p ∨ zbh (R j) c (n + 1)))
    show 0 ≤ zse f R l m p c n + zb _ ∧ zse f R l m p c n + zb _ ≤ ((n + 1 : Nat) : Int)
    omega
noncomputable def zsr (f R : Int → Int) (l m p : Int) : Int := if zfo R (R 0) p 0 m.toNat = -1 then 60 else zse f R l m p (zfo R (R 0) p 0 m.toNat) 60
set_option maxRecDepth 20000 in
set_option maxHeartbeats 2000000 in
theorem kX1_srL (hS : zSt M) {R : Int → Int} {m : Int} (hD : zDi R m M) {p c : Int} (hp : 1 ≤ p ∧ p ≤ 60) (hc : 0 ≤ c ∧ c < 400) : ∀ (k : Nat) (n : Nat), (n : Int) + k = 60 → zV g xX1_secondRounds (zPp (zi (zse (M 23) R (M 21 3) m p c 60)) 75 M) 19 [zr 21, zi p, zi c, zi (zse (M 23) R (M 21 3) m p c n), zi ((n : Int) + 1)] [] 75 M 0 0 := by
  intro k
  induction k with
  | zero =>
    intro n h0 
    obtain ⟨hm, ho, hr, e1, e2, e3, ht⟩ := id hD
    have hl := (ho (m - 1) (by omega) (by omega)).1
    have h00 := (ho 0 (by omega) (by omega)).1
    have hz := zse_b (f := M 23) (R := R) (l := M 21 3) (m := m) (p := p) (c := c) n
    refine zV_iload (pc := 19) dX1_secondRounds_19 rfl ?_
    refine zV_bipush (pc := 21) dX1_secondRounds_21 (by decide) ?_
    refine zV_icmp_gt (pc := 23) (tgt := 56) dX1_secondRounds_23 (by decide) (by omega) (fun c_23 => ?_) (fun c_23 => absurd (by omega) c_23)
    refine zV_iload_n (pc := 56) (i := 3) dX1_secondRounds_56 rfl rfl ?_
    refine zV_iret (pc := 57) dX1_secondRounds_57 trivial ⟨Nat.zero_le _, Nat.zero_le _⟩ ?_
    have en : n = 60 := by omega
    subst en
    exact zPe rfl
  | succ k ih =>
    intro n h0 
    obtain ⟨hm, ho, hr, e1, e2, e3, ht⟩ := id hD
    have hl := (ho (m - 1) (by omega) (by omega)).1
    have h00 := (ho 0 (by omega) (by omega)).1
    have hz := zse_b (f := M 23) (R := R) (l := M 21 3) (m := m) (p := p) (c := c) n
    refine zV_iload (pc := 19) dX1_secondRounds_19 rfl ?_
    refine zV_bipush (pc := 21) dX1_secondRounds_21 (by decide) ?_
    refine zV_icmp_gt (pc := 23) (tgt := 56) dX1_secondRounds_23 (by decide) (by omega) (fun c_23 => absurd c_23 (by omega)) (fun c_23 => ?_)
    refine zV_aload_n (pc := 26) (i := 0) dX1_secondRounds_26 rfl rfl ?_
    refine zV_iload_n (pc := 27) (i := 2) dX1_secondRounds_27 rfl rfl ?_
    refine zV_iload (pc := 28) dX1_secondRounds_28 rfl ?_
    refine zV_ivp (pc := 30) (ci := 1) dX1_secondRounds_30 klX1_54 mX1_tellsRound ⟨by decide, rfl⟩ rfl ⟨Nat.zero_le _, Nat.zero_le _⟩ (kX1_tellsRound hS hD hc (by omega)) (zOb_of rfl) rfl rfl (Nat.le_of_ble_eq_true rfl) ?_
    refine zV_if_eqb (pc := 33) (tgt := 50) dX1_secondRounds_33 (by decide) (fun c_33 => ?_) (fun c_33 => ?_)
    · refine zV_iinc (pc := 50) dX1_secondRounds_50 rfl rfl ?_
      try dsimp only [List.set_cons_succ, List.set_cons_zero]
      refine zV_goto (pc := 53) (tgt := 19) dX1_secondRounds_53 (by decide) ?_
      have e9 : (n : Int) + 1 = ((n + 1 : Nat) : Int) := rfl
      first
        | (have e8 : zse (M 23) R (M 21 3) m p c (n + 1) = zse (M 23) R (M 21 3) m p c n + 1 := congrArg (fun z => zse (M 23) R (M 21 3) m p c n + z) (zb_t ⟨c_33, c_44⟩)
           rw [← e8]
           exact ih (n + 1) (by omega))
        | (have e8 : zse (M 23) R (M 21 3) m p c (n + 1) = zse (M 23) R (M 21 3) m p c n + 0 := congrArg (fun z => zse (M 23) R (M 21 3) m p c n + z) (zb_f (fun q => c_44 q.2))
           rw [Int.add_zero] at e8
           rw [← e8]
           exact ih (n + 1) (by omega))
        | (have e8 : zse (M 23) R (M 21 3) m p c (n + 1) = zse (M 23) R (M 21 3) m p c n + 0 := congrArg (fun z => zse (M 23) R (M 21 3) m p c n + z) (zb_f (fun q => c_33 q.1))
           rw [Int.add_zero] at e8
           rw [← e8]
           exact ih (n + 1) (by omega))
    · refine zV_aload_n (pc := 36) (i := 0) dX1_secondRounds_36 rfl rfl ?_
      refine zV_iload_n (pc := 37) (i := 1) dX1_secondRounds_37 rfl rfl ?_
      refine zV_iload_n (pc := 38) (i := 2) dX1_secondRounds_38 rfl rfl ?_
      refine zV_iload (pc := 39) dX1_secondRounds_39 rfl ?_
      refine zV_ivp (pc := 41) (ci := 1) dX1_secondRounds_41 klX1_64 mX1_areAll ⟨by decide, rfl⟩ rfl ⟨Nat.zero_le _, Nat.zero_le _⟩ (kX1_areAll hS hD (by omega) hc (by omega)) (zOb_of rfl) rfl rfl (Nat.le_of_ble_eq_true rfl) ?_
      refine zV_if_eqb (pc := 44) (tgt := 50) dX1_secondRounds_44 (by decide) (fun c_44 => ?_) (fun c_44 => ?_)
      · refine zV_iinc (pc := 50) dX1_secondRounds_50 rfl rfl ?_
        try dsimp only [List.set_cons_succ, List.set_cons_zero]
        refine zV_goto (pc := 53) (tgt := 19) dX1_secondRounds_53 (by decide) ?_
        have e9 : (n : Int) + 1 = ((n + 1 : Nat) : Int) := rfl
        first
          | (have e8 : zse (M 23) R (M 21 3) m p c (n + 1) = zse (M 23) R (M 21 3) m p c n + 1 := congrArg (fun z => zse (M 23) R (M 21 3) m p c n + z) (zb_t ⟨c_33, c_44⟩)
             rw [← e8]
             exact ih (n + 1) (by omega))
          | (have e8 : zse (M 23) R (M 21 3) m p c (n + 1) = zse (M 23) R (M 21 3) m p c n + 0 := congrArg (fun z => zse (M 23) R (M 21 3) m p c n + z) (zb_f (fun q => c_44 q.2))
             rw [Int.add_zero] at e8
             rw [← e8]
             exact ih (n + 1) (by omega))
          | (have e8 : zse (M 23) R (M 21 3) m p c (n + 1) = zse (M 23) R (M 21 3) m p c n + 0 := congrArg (fun z => zse (M 23) R (M 21 3) m p c n + z) (zb_f (fun q => c_33 q.1))
             rw [Int.add_zero] at e8
             rw [← e8]
             exact ih (n + 1) (by omega))
      · refine zV_iinc (pc := 47) dX1_secondRounds_47 rfl rfl ?_
        try dsimp only [List.set_cons_succ, List.set_cons_zero]
        refine zV_iinc (pc := 50) dX1_secondRounds_50 rfl rfl ?_
        try dsimp only [List.set_cons_succ, List.set_cons_zero]
        refine zV_goto (pc := 53) (tgt := 19) dX1_secondRounds_53 (by decide) ?_
        have e9 : (n : Int) + 1 = ((n + 1 : Nat) : Int) := rfl
        first
          | (have e8 : zse (M 23) R (M 21 3) m p c (n + 1) = zse (M 23) R (M 21 3) m p c n + 1 := congrArg (fun z => zse (M 23) R (M 21 3) m p c n + z) (zb_t ⟨c_33, c_44⟩)
             rw [← e8]
             exact ih (n + 1) (by omega))
          | (have e8 : zse (M 23) R (M 21 3) m p c (n + 1) = zse (M 23) R (M 21 3) m p c n + 0 := congrArg (fun z => zse (M 23) R (M 21 3) m p c n + z) (zb_f (fun q => c_44 q.2))
             rw [Int.add_zero] at e8
             rw [← e8]
             exact ih (n + 1) (by omega))
          | (have e8 : zse (M 23) R (M 21 3) m p c (n + 1) = zse (M 23) R (M 21 3) m p c n + 0 := congrArg (fun z => zse (M 23) R (M 21 3) m p c n + z) (zb_f (fun q => c_33 q.1))
             rw [Int.add_zero] at e8
             rw [← e8]
             exact ih (n + 1) (by omega))
set_option maxRecDepth 20000 in
set_option maxHeartbeats 2000000 in
theorem kX1_secondRounds (hS : zSt M) {R : Int → Int} {m : Int} (hD : zDi R m M) {p : Int} (hp : 1 ≤ p ∧ p ≤ 60) : zK g yX1_secondRounds xX1_secondRounds [zr 21, zi p] 75 M (zPp (zi (zsr (M 23) R (M 21 3) m p)) 75 M) := by
  refine zK_of (ls0 := [zr 21, zi p, (3, 0), (3, 0), (3, 0)]) (by decide) rfl (by decide) rfl (Nat.le_of_ble_eq_true rfl) ?_
  obtain ⟨hm, ho, hr, e1, e2, e3, ht⟩ := id hD
  have hl := (ho (m - 1) (by omega) (by omega)).1
  have h00 := (ho 0 (by omega) (by omega)).1
  have hfo := zfo_b (R := R) (b := R 0) (p := p) (m := m) (fun j j0 j1 => (ho j j0 j1).1) m.toNat 0 (by omega) (by omega)
  refine zV_aload_n (pc := 0) (i := 0) dX1_secondRounds_0 rfl rfl ?_
  refine zV_iload_n (pc := 1) (i := 1) dX1_secondRounds_1 rfl rfl ?_
  refine zV_ivp (pc := 2) (ci := 1) dX1_secondRounds_2 klX1_61 mX1_firstOutside ⟨by decide, rfl⟩ rfl ⟨Nat.zero_le _, Nat.zero_le _⟩ (kX1_firstOutside hS hD (by omega)) (zOb_of rfl) rfl rfl (Nat.le_of_ble_eq_true rfl) ?_
  refine zV_istore_n (pc := 5) (i := 2) dX1_secondRounds_5 rfl rfl ?_
  try dsimp only [List.set_cons_succ, List.set_cons_zero]
  refine zV_iload_n (pc := 6) (i := 2) dX1_secondRounds_6 rfl rfl ?_
  refine zV_iconst (pc := 7) dX1_secondRounds_7 ?_
  refine zV_icmp_ne (pc := 8) (tgt := 14) dX1_secondRounds_8 (by decide) (by omega) (fun c_8 => ?_) (fun c_8 => ?_)
  · refine zV_iconst (pc := 14) dX1_secondRounds_14 ?_
    refine zV_istore_n (pc := 15) (i := 3) dX1_secondRounds_15 rfl rfl ?_
    try dsimp only [List.set_cons_succ, List.set_cons_zero]
    refine zV_iconst (pc := 16) dX1_secondRounds_16 ?_
    refine zV_istore (pc := 17) dX1_secondRounds_17 rfl ?_
    try dsimp only [List.set_cons_succ, List.set_cons_zero]
    unfold zsr
    rw [if_neg c_8]
    exact kX1_srL hS hD (c := zfo R (R 0) p 0 m.toNat) hp (by omega) 60 0 (by decide)
  · refine zV_bipush (pc := 11) dX1_secondRounds_11 (by decide) ?_
    refine zV_iret (pc := 13) dX1_secondRounds_13 trivial ⟨Nat.zero_le _, Nat.zero_le _⟩ ?_
    exact zPe (if_pos (by omega)).symm
end
