/-! DIARIES: two rounds, periods, the calls diary and rounds (printed by wip/whole/p37.py) -/
noncomputable def ztw (f R : Int → Int) (l m : Int) : Nat → Int
  | 0 => 0
  | n + 1 => ztw f R l m n + zif (ztr f l (R 0) (n + 1)) (zsr f R l m (n + 1)) 0
theorem zsr_b {f R : Int → Int} {l m p : Int} : 0 ≤ zsr f R l m p ∧ zsr f R l m p ≤ 60 := by
  unfold zsr
  split
  · decide
  · exact zse_b 60
theorem ztw_b {f R : Int → Int} {l m : Int} : ∀ n : Nat, 0 ≤ ztw f R l m n ∧ ztw f R l m n ≤ 60 * n := by
  intro n
  induction n with
  | zero => exact ⟨by show (0 : Int) ≤ 0; decide, by show (0 : Int) ≤ 60 * 0; decide⟩
  | succ n ih =>
    have := zsr_b (f := f) (R := R) (l := l) (m := m) (p := n + 1)
    show 0 ≤ ztw f R l m n + zif _ (zsr f R l m (n + 1)) 0 ∧ ztw f R l m n + zif _ (zsr f R l m (n + 1)) 0 ≤ 60 * ((n + 1 : Nat) : Int)
    by_cases c : ztr f l (R 0) (n + 1)
    · rw [zif_t c]
      omega
    · rw [zif_f c]
      omega
/-- all told days one period apart -/
def zev (R : Int → Int) (m p : Int) : Prop := ∀ j : Int, 1 ≤ j → j < m → R j - R (j - 1) = p
noncomputable def zper (R : Int → Int) (m : Int) : Int := if m < 2 then 2 ^ 60 - 1 else zif (zev R m (R 1 - R 0) ∧ 1 ≤ R 1 - R 0 ∧ R 1 - R 0 ≤ 60) (2 ^ (R 1 - R 0 - 1).toNat) 0
theorem zlshl1 : ∀ n : Nat, n < 63 → Int64.ofInt 1 <<< ((nI n).toInt64 &&& 63) = Int64.ofInt (2 ^ n) := by decide +kernel
theorem zlshl {y : Int} (h : 0 ≤ y ∧ y < 63) : Int64.ofInt 1 <<< ((Int32.ofInt y).toInt64 &&& 63) = Int64.ofInt (2 ^ y.toNat) := by
  rw [zo_n h.1]
  exact zlshl1 _ (by omega)
section
variable {g : zG} {N : Nat} {M : zM}
set_option maxRecDepth 20000 in
set_option maxHeartbeats 2000000 in
theorem kX1_twL (hS : zSt M) {R : Int → Int} {m : Int} (hD : zDi R m M) : ∀ (k : Nat) (n : Nat), (n : Int) + k = 60 → zV g xX1_twoRounds (zPp (zi (ztw (M 23) R (M 21 3) m 60)) 75 M) 4 [zr 21, zi (ztw (M 23) R (M 21 3) m n), zi ((n : Int) + 1)] [] 75 M 0 0 := by
  intro k
  induction k with
  | zero =>
    intro n h0 
    obtain ⟨hm, ho, hr, e1, e2, e3, ht⟩ := id hD
    have hl := (ho (m - 1) (by omega) (by omega)).1
    have h00 := (ho 0 (by omega) (by omega)).1
    have hz := ztw_b (f := M 23) (R := R) (l := M 21 3) (m := m) n
    have hz2 := zsr_b (f := M 23) (R := R) (l := M 21 3) (m := m) (p := n + 1)
    refine zV_iload_n (pc := 4) (i := 2) dX1_twoRounds_4 rfl rfl ?_
    refine zV_bipush (pc := 5) dX1_twoRounds_5 (by decide) ?_
    refine zV_icmp_gt (pc := 7) (tgt := 36) dX1_twoRounds_7 (by decide) (by omega) (fun c_7 => ?_) (fun c_7 => absurd (by omega) c_7)
    refine zV_iload_n (pc := 36) (i := 1) dX1_twoRounds_36 rfl rfl ?_
    refine zV_iret (pc := 37) dX1_twoRounds_37 trivial ⟨Nat.zero_le _, Nat.zero_le _⟩ ?_
    have en : n = 60 := by omega
    subst en
    exact zPe rfl
  | succ k ih =>
    intro n h0 
    obtain ⟨hm, ho, hr, e1, e2, e3, ht⟩ := id hD
    have hl := (ho (m - 1) (by omega) (by omega)).1
    have h00 := (ho 0 (by omega) (by omega)).1
    have hz := ztw_b (f := M 23) (R := R) (l := M 21 3) (m := m) n
    have hz2 := zsr_b (f := M 23) (R := R) (l := M 21 3) (m := m) (p := n + 1)
    refine zV_iload_n (pc := 4) (i := 2) dX1_twoRounds_4 rfl rfl ?_
    refine zV_bipush (pc := 5) dX1_twoRounds_5 (by decide) ?_
    refine zV_icmp_gt (pc := 7) (tgt := 36) dX1_twoRounds_7 (by decide) (by omega) (fun c_7 => absurd c_7 (by omega)) (fun c_7 => ?_)
    refine zV_aload_n (pc := 10) (i := 0) dX1_twoRounds_10 rfl rfl ?_
    refine zV_aload_n (pc := 11) (i := 0) dX1_twoRounds_11 rfl rfl ?_
    refine zV_get (pc := 12) (j := 2) dX1_twoRounds_12 flX1_38 (zOb_of rfl) rfl e2 ?_
    refine zV_iload_n (pc := 15) (i := 2) dX1_twoRounds_15 rfl rfl ?_
    refine zV_ivp (pc := 16) (ci := 1) dX1_twoRounds_16 klX1_54 mX1_tellsRound ⟨by decide, rfl⟩ rfl ⟨Nat.zero_le _, Nat.zero_le _⟩ (kX1_tellsRound hS hD h00 (by omega)) (zOb_of rfl) rfl rfl (Nat.le_of_ble_eq_true rfl) ?_
    refine zV_if_eqb (pc := 19) (tgt := 30) dX1_twoRounds_19 (by decide) (fun c_19 => ?_) (fun c_19 => ?_)
    · refine zV_iinc (pc := 30) dX1_twoRounds_30 rfl rfl ?_
      try dsimp only [List.set_cons_succ, List.set_cons_zero]
      refine zV_goto (pc := 33) (tgt := 4) dX1_twoRounds_33 (by decide) ?_
      first
        | (have e8 : ztw (M 23) R (M 21 3) m (n + 1) = ztw (M 23) R (M 21 3) m n + zsr (M 23) R (M 21 3) m (n + 1) := congrArg (fun z => ztw (M 23) R (M 21 3) m n + z) (zif_t c_19)
           rw [← e8]
           exact ih (n + 1) (by omega))
        | (have e8 : ztw (M 23) R (M 21 3) m (n + 1) = ztw (M 23) R (M 21 3) m n + 0 := congrArg (fun z => ztw (M 23) R (M 21 3) m n + z) (zif_f c_19)
           rw [Int.add_zero] at e8
           rw [← e8]
           exact ih (n + 1) (by omega))
    · refine zV_iload_n (pc := 22) (i := 1) dX1_twoRounds_22 rfl rfl ?_
      refine zV_aload_n (pc := 23) (i := 0) dX1_twoRounds_23 rfl rfl ?_
      refine zV_iload_n (pc := 24) (i := 2) dX1_twoRounds_24 rfl rfl ?_
      refine zV_ivp (pc := 25) (ci := 1) dX1_twoRounds_25 klX1_57 mX1_secondRounds ⟨by decide, rfl⟩ rfl ⟨Nat.zero_le _, Nat.zero_le _⟩ (kX1_secondRounds hS hD (by omega)) (zOb_of rfl) rfl rfl (Nat.le_of_ble_eq_true rfl) ?_
      refine zV_iadd (pc := 28) dX1_twoRounds_28 ?_
      refine zV_istore_n (pc := 29) (i := 1) dX1_twoRounds_29 rfl rfl ?_
      try dsimp only [List.set_cons_succ, List.set_cons_zero]
      refine zV_iinc (pc := 30) dX1_twoRounds_30 rfl rfl ?_
      try dsimp only [List.set_cons_succ, List.set_cons_zero]
      refine zV_goto (pc := 33) (tgt := 4) dX1_twoRounds_33 (by decide) ?_
      first
        | (have e8 : ztw (M 23) R (M 21 3) m (n + 1) = ztw (M 23) R (M 21 3) m n + zsr (M 23) R (M 21 3) m (n + 1) := congrArg (fun z => ztw (M 23) R (M 21 3) m n + z) (zif_t c_19)
           rw [← e8]
           exact ih (n + 1) (by omega))
        | (have e8 : ztw (M 23) R (M 21 3) m (n + 1) = ztw (M 23) R (M 21 3) m n + 0 := congrArg (fun z => ztw (M 23) R (M 21 3) m n + z) (zif_f c_19)
           rw [Int.add_zero] at e8
           rw [← e8]
           exact ih (n + 1) (by omega))
set_option maxRecDepth 20000 in
set_option maxHeartbeats 2000000 in
theorem kX1_twoRounds (hS : zSt M) {R : Int → Int} {m : Int} (hD : zDi R m M) : zK g yX1_twoRounds xX1_twoRounds [zr 21] 75 M (zPp (zi (ztw (M 23) R (M 21 3) m 60)) 75 M) := by
  refine zK_of (ls0 := [zr 21, (3, 0), (3, 0)]) (by decide) rfl (by decide) rfl (Nat.le_of_ble_eq_true rfl) ?_
  refine zV_iconst (pc := 0) dX1_twoRounds_0 ?_
  refine zV_istore_n (pc := 1) (i := 1) dX1_twoRounds_1 rfl rfl ?_
  try dsimp only [List.set_cons_succ, List.set_cons_zero]
  refine zV_iconst (pc := 2) dX1_twoRounds_2 ?_
  refine zV_istore_n (pc := 3) (i := 2) dX1_twoRounds_3 rfl rfl ?_
  try dsimp only [List.set_cons_succ, List.set_cons_zero]
  exact kX1_twL hS hD 60 0 (by decide)
set_option maxRecDepth 20000 in
set_option maxHeartbeats 2000000 in
theorem kX1_pdL (hS : zSt M) {R : Int → Int} {m : Int} (hD : zDi R m M) (hm2 : 2 ≤ m) : ∀ (k : Nat) (i : Int), i + k = m → 2 ≤ i → (∀ j : Int, 1 ≤ j → j < i → R j - R (j - 1) = R 1 - R 0) → zV g xX1_periods (zPp (zl (zper R m)) 75 M) 29 [zr 21, zl 1152921504606846975, (3, 0), zi (R 1 - R 0), zi i] [] 75 M 0 0 := by
  intro k
  induction k with
  | zero =>
    intro i h0 h1 h2
    obtain ⟨hm, ho, hr, e1, e2, e3, ht⟩ := id hD
    have hl := (ho (m - 1) (by omega) (by omega)).1
    have h00 := (ho 0 (by omega) (by omega)).1
    have h11 := (ho 1 (by omega) (by omega)).1
    refine zV_iload (pc := 29) dX1_periods_29 rfl ?_
    refine zV_aload_n (pc := 31) (i := 0) dX1_periods_31 rfl rfl ?_
    refine zV_get (pc := 32) (j := 1) dX1_periods_32 flX1_41 (zOb_of rfl) rfl e1 ?_
    refine zV_icmp_ge (pc := 35) (tgt := 67) dX1_periods_35 (by decide) (by omega) (fun c_35 => ?_) (fun c_35 => absurd (by omega) c_35)
    refine zV_iload_n (pc := 67) (i := 3) dX1_periods_67 rfl rfl ?_
    refine zV_iconst (pc := 68) dX1_periods_68 ?_
    refine zV_bipush (pc := 69) dX1_periods_69 (by decide) ?_
    refine zV_isNp (pc := 71) dX1_periods_71 klX1_50 mX9_within rfl ⟨Nat.zero_le _, Nat.zero_le _⟩ (kX9_within (by omega) (by omega) (by omega)) rfl rfl (Nat.le_of_ble_eq_true rfl) ?_
    refine zV_if_eqb (pc := 74) (tgt := 85) dX1_periods_74 (by decide) (fun c_74 => ?_) (fun c_74 => ?_)
    · refine zV_lconst0 (pc := 85) dX1_periods_85 ?_
      refine zV_lret (pc := 86) dX1_periods_86 trivial ⟨Nat.zero_le _, Nat.zero_le _⟩ ?_
      first
        | exact zPl ((if_neg (by omega)).trans (zif_t ⟨fun j j0 j1 => h2 j j0 (by omega), c_74⟩)).symm
        | exact zPl ((if_neg (by omega)).trans (zif_f (fun q => c_74 q.2))).symm
    · refine zV_lconst1 (pc := 77) dX1_periods_77 ?_
      refine zV_iload_n (pc := 78) (i := 3) dX1_periods_78 rfl rfl ?_
      refine zV_iconst (pc := 79) dX1_periods_79 ?_
      refine zV_isub (pc := 80) dX1_periods_80 ?_
      refine zV_lshl (pc := 81) dX1_periods_81 (zlshl (by omega)) ?_
      refine zV_goto (pc := 82) (tgt := 86) dX1_periods_82 (by decide) ?_
      refine zV_lret (pc := 86) dX1_periods_86 trivial ⟨Nat.zero_le _, Nat.zero_le _⟩ ?_
      first
        | exact zPl ((if_neg (by omega)).trans (zif_t ⟨fun j j0 j1 => h2 j j0 (by omega), c_74⟩)).symm
        | exact zPl ((if_neg (by omega)).trans (zif_f (fun q => c_74 q.2))).symm
  | succ k ih =>
    intro i h0 h1 h2
    obtain ⟨hm, ho, hr, e1, e2, e3, ht⟩ := id hD
    have hl := (ho (m - 1) (by omega) (by omega)).1
    have h00 := (ho 0 (by omega) (by omega)).1
    have h11 := (ho 1 (by omega) (by omega)).1
    refine zV_iload (pc := 29) dX1_periods_29 rfl ?_
    refine zV_aload_n (pc := 31) (i := 0) dX1_periods_31 rfl rfl ?_
    refine zV_get (pc := 32) (j := 1) dX1_periods_32 flX1_41 (zOb_of rfl) rfl e1 ?_
    have xa := (ho i (by omega) (by omega)).1
    have xb := (ho (i - 1) (by omega) (by omega)).1
    refine zV_icmp_ge (pc := 35) (tgt := 67) dX1_periods_35 (by decide) (by omega) (fun c_35 => absurd c_35 (by omega)) (fun c_35 => ?_)
    refine zV_aload_n (pc := 38) (i := 0) dX1_periods_38 rfl rfl ?_
    refine zV_get (pc := 39) (j := 0) dX1_periods_39 flX1_9 (zOb_of rfl) rfl hS.e21_0 ?_
    refine zV_iload (pc := 42) dX1_periods_42 rfl ?_
    refine zV_iald (pc := 44) dX1_periods_44 (zAr_of rfl : zAr 75 22 0 20) (by omega) (hr _ (by omega) (by omega)) ?_
    refine zV_aload_n (pc := 45) (i := 0) dX1_periods_45 rfl rfl ?_
    refine zV_get (pc := 46) (j := 0) dX1_periods_46 flX1_9 (zOb_of rfl) rfl hS.e21_0 ?_
    refine zV_iload (pc := 49) dX1_periods_49 rfl ?_
    refine zV_iconst (pc := 51) dX1_periods_51 ?_
    refine zV_isub (pc := 52) dX1_periods_52 ?_
    refine zV_iald (pc := 53) dX1_periods_53 (zAr_of rfl : zAr 75 22 0 20) (by omega) (hr _ (by omega) (by omega)) ?_
    refine zV_isub (pc := 54) dX1_periods_54 ?_
    refine zV_iload_n (pc := 55) (i := 3) dX1_periods_55 rfl rfl ?_
    refine zV_icmp_eq (pc := 56) (tgt := 61) dX1_periods_56 (by decide) (by omega) (fun c_56 => ?_) (fun c_56 => ?_)
    · refine zV_iinc (pc := 61) dX1_periods_61 rfl rfl ?_
      try dsimp only [List.set_cons_succ, List.set_cons_zero]
      refine zV_goto (pc := 64) (tgt := 29) dX1_periods_64 (by decide) ?_
      refine ih (i + 1) (by omega) (by omega) (fun j j0 j1 => ?_)
      by_cases ej : j = i
      · subst ej
        exact c_56
      · exact h2 j j0 (by omega)
    · refine zV_lconst0 (pc := 59) dX1_periods_59 ?_
      refine zV_lret (pc := 60) dX1_periods_60 trivial ⟨Nat.zero_le _, Nat.zero_le _⟩ ?_
      exact zPl ((if_neg (by omega)).trans (zif_f (fun q => c_56 (q.1 i (by omega) (by omega))))).symm
set_option maxRecDepth 20000 in
set_option maxHeartbeats 2000000 in
theorem kX1_periods (hS : zSt M) {R : Int → Int} {m : Int} (hD : zDi R m M) : zK g yX1_periods xX1_periods [zr 21] 75 M (zPp (zl (zper R m)) 75 M) := by
  refine zK_of (ls0 := [zr 21, (3, 0), (3, 0), (3, 0), (3, 0)]) (by decide) rfl (by decide) rfl (Nat.le_of_ble_eq_true rfl) ?_
  obtain ⟨hm, ho, hr, e1, e2, e3, ht⟩ := id hD
  have hl := (ho (m - 1) (by omega) (by omega)).1
  have h00 := (ho 0 (by omega) (by omega)).1
  refine zV_ldc2 (pc := 0) dX1_periods_0 kiX1_48 ?_
  refine zV_lstore_n (pc := 3) (i := 1) dX1_periods_3 rfl rfl ?_
  try dsimp only [List.set_cons_succ, List.set_cons_zero]
  refine zV_aload_n (pc := 4) (i := 0) dX1_periods_4 rfl rfl ?_
  refine zV_get (pc := 5) (j := 1) dX1_periods_5 flX1_41 (zOb_of rfl) rfl e1 ?_
  refine zV_iconst (pc := 8) dX1_periods_8 ?_
  refine zV_icmp_ge (pc := 9) (tgt := 14) dX1_periods_9 (by decide) (by omega) (fun c_9 => ?_) (fun c_9 => ?_)
  · refine zV_aload_n (pc := 14) (i := 0) dX1_periods_14 rfl rfl ?_
    refine zV_get (pc := 15) (j := 0) dX1_periods_15 flX1_9 (zOb_of rfl) rfl hS.e21_0 ?_
    refine zV_iconst (pc := 18) dX1_periods_18 ?_
    refine zV_iald (pc := 19) dX1_periods_19 (zAr_of rfl : zAr 75 22 0 20) (by omega) (hr _ (by omega) (by omega)) ?_
    have h11 := (ho 1 (by omega) (by omega)).1
    refine zV_aload_n (pc := 20) (i := 0) dX1_periods_20 rfl rfl ?_
    refine zV_get (pc := 21) (j := 2) dX1_periods_21 flX1_38 (zOb_of rfl) rfl e2 ?_
    refine zV_isub (pc := 24) dX1_periods_24 ?_
    refine zV_istore_n (pc := 25) (i := 3) dX1_periods_25 rfl rfl ?_
    try dsimp only [List.set_cons_succ, List.set_cons_zero]
    refine zV_iconst (pc := 26) dX1_periods_26 ?_
    refine zV_istore (pc := 27) dX1_periods_27 rfl ?_
    try dsimp only [List.set_cons_succ, List.set_cons_zero]
    exact kX1_pdL hS hD (by omega) (m - 2).toNat 2 (by omega) (by omega) (fun j j0 j1 => by rw [show j = 1 by omega]; rfl)
  · refine zV_lload_n (pc := 12) (i := 1) dX1_periods_12 rfl rfl ?_
    refine zV_lret (pc := 13) dX1_periods_13 trivial ⟨Nat.zero_le _, Nat.zero_le _⟩ ?_
    exact zPl (if_pos (by omega)).symm
end
/-- the days R 0 .. R (m - 1), of all up to the last, are just those of C -/
def zis (R : Int → Int) (m : Int) (C : Int → Prop) : Prop := ∀ d : Int, 0 ≤ d → d ≤ R (m - 1) → ((∃ j : Int, (0 ≤ j ∧ j < m) ∧ R j = d) ↔ C d)
theorem zDi.is {M : zM} {R : Int → Int} {m : Int} (hD : zDi R m M) (C : Int → Prop) : (∀ d : Int, 0 ≤ d → d ≤ M 21 3 → (M 23 d = 1 ↔ C d)) ↔ zis R m C := by
  obtain ⟨hm, ho, hr, e1, e2, e3, ht⟩ := hD
  have hl := (ho (m - 1) (by omega) (by omega)).1
  unfold zis
  rw [e3]
  constructor
  · intro h d d0 d1
    rw [← h d d0 d1]
    exact (ht d d0 (by omega)).2.symm
  · intro h d d0 d1
    rw [← h d d0 d1]
    exact (ht d d0 (by omega)).2
theorem zDi.fr {C : Int → Int → Prop} {M M1 : zM} {R : Int → Int} {m : Int} (hD : zDi R m M) (f : zFr C M M1) (h : ∀ a j, C a j → a ≠ 21 ∧ a ≠ 22 ∧ a ≠ 23) : zDi R m M1 := by
  obtain ⟨hm, ho, hr, e1, e2, e3, ht⟩ := hD
  have g1 : ∀ j, M1 21 j = M 21 j := fun j => f _ _ (fun q => (h _ _ q).1 rfl)
  have g2 : ∀ j, M1 22 j = M 22 j := fun j => f _ _ (fun q => (h _ _ q).2.1 rfl)
  have g3 : M1 23 = M 23 := funext fun j => f _ _ (fun q => (h _ _ q).2.2 rfl)
  exact ⟨hm, ho, fun j j0 j1 => (g2 j).trans (hr j j0 j1), (g1 1).trans e1, (g1 2).trans e2, (g1 3).trans e3, by rw [g3]; exact ht⟩
section
variable {g : zG} {N : Nat} {M : zM}
set_option maxRecDepth 20000 in
set_option maxHeartbeats 2000000 in
theorem kX1_isOf2 (hS : zSt M) {R : Int → Int} {m : Int} (hD : zDi R m M) {a h : Int} (hO : zOb 75 a 8) (hk : 0 ≤ M a 0 ∧ M a 0 ≤ 5) (hn : 0 ≤ M a 1 ∧ M a 1 ≤ 9) (hp : 1 ≤ M a 2 ∧ M a 2 ≤ 60) (hb : 0 ≤ M a 3 ∧ M a 3 ≤ 59) (hh : 0 ≤ h ∧ h ≤ 127) : zK g yX1_isOf xX1_isOf [zr 21, zr a, zi h] 75 M (zPp (zi (zb (zis R m (fun d => zcm (M a 0) (M a 1) (M a 2) (M a 3) h d)))) 75 M) := by
  rw [← zb_c (hD.is (fun d => zcm (M a 0) (M a 1) (M a 2) (M a 3) h d))]
  exact kX1_isOf hS hD hO hk hn hp hb hh
set_option maxRecDepth 20000 in
set_option maxHeartbeats 2000000 in
theorem kX9_topL (hR : zRo M) {R : Int → Int} {m : Int} (hD : zDi R m M) : ∀ (k : Nat) (i acc : Int), i + k = 6 → 0 ≤ i → acc = zso (fun i => zis R m (fun d => zct (zTc M) (M 1 2) d i)) (min i (M 1 1)).toNat → zV g xX9_thingsOfPages (zPp (zi (zso (fun i => zis R m (fun d => zct (zTc M) (M 1 2) d i)) (M 1 1).toNat)) 75 M) 4 [zr 0, zi acc, zi i] [] 75 M 0 0 := by
  intro k
  induction k with
  | zero =>
    intro i acc h0 h1 h2
    obtain ⟨hS, hW, hU, hh⟩ := id hR
    have hn := hW.1
    refine zV_iload_n (pc := 4) (i := 2) dX9_thingsOfPages_4 rfl rfl ?_
    refine zV_bipush (pc := 5) dX9_thingsOfPages_5 (by decide) ?_
    refine zV_icmp_ge (pc := 7) (tgt := 59) dX9_thingsOfPages_7 (by decide) (by omega) (fun c_7 => ?_) (fun c_7 => absurd (by omega) c_7)
    refine zV_iload_n (pc := 59) (i := 1) dX9_thingsOfPages_59 rfl rfl ?_
    refine zV_iret (pc := 60) dX9_thingsOfPages_60 trivial ⟨Nat.zero_le _, Nat.zero_le _⟩ ?_
    rw [show min i (M 1 1) = M 1 1 by omega] at h2
    exact zPe h2
  | succ k ih =>
    intro i acc h0 h1 h2
    obtain ⟨hS, hW, hU, hh⟩ := id hR
    have hn := hW.1
    refine zV_iload_n (pc := 4) (i := 2) dX9_thingsOfPages_4 rfl rfl ?_
    refine zV_bipush (pc := 5) dX9_thingsOfPages_5 (by decide) ?_
    refine zV_icmp_ge (pc := 7) (tgt := 59) dX9_thingsOfPages_7 (by decide) (by omega) (fun c_7 => absurd c_7 (by omega)) (fun c_7 => ?_)
    refine zV_aload_n (pc := 10) (i := 0) dX9_thingsOfPages_10 rfl rfl ?_
    refine zV_get (pc := 11) (j := 0) dX9_thingsOfPages_11 flX9_12 (zOb_of rfl) rfl hS.e0_0 ?_
    refine zV_iload_n (pc := 14) (i := 2) dX9_thingsOfPages_14 rfl rfl ?_
    refine zV_ivp (pc := 15) (ci := 5) dX9_thingsOfPages_15 klX9_100 mX5_has ⟨by decide, rfl⟩ rfl ⟨Nat.zero_le _, Nat.zero_le _⟩ (kX5_has hS hn (by omega)) (zOb_of rfl) rfl rfl (Nat.le_of_ble_eq_true rfl) ?_
    refine zV_if_eqb (pc := 18) (tgt := 53) dX9_thingsOfPages_18 (by decide) (fun c_18 => ?_) (fun c_18 => ?_)
    · refine zV_iinc (pc := 53) dX9_thingsOfPages_53 rfl rfl ?_
      refine zV_goto (pc := 56) (tgt := 4) dX9_thingsOfPages_56 (by decide) ?_
      first
        | exact ih (i + 1) _ (by omega) (by omega) (by rw [h2, show min (i + 1) (M 1 1) = i + 1 by omega]; exact (zso_t (q := (fun i => zis R m (fun d => zct (zTc M) (M 1 2) d i))) (by omega) c_44).symm)
        | exact ih (i + 1) _ (by omega) (by omega) (by rw [h2, show min (i + 1) (M 1 1) = i + 1 by omega]; exact (zso_f (q := (fun i => zis R m (fun d => zct (zTc M) (M 1 2) d i))) (by omega) c_44).symm)
        | exact ih (i + 1) _ (by omega) (by omega) (by rw [h2, show min (i + 1) (M 1 1) = min i (M 1 1) by omega])
    · rw [show min i (M 1 1) = i by omega] at h2
      refine zV_aload_n (pc := 21) (i := 0) dX9_thingsOfPages_21 rfl rfl ?_
      refine zV_get (pc := 22) (j := 8) dX9_thingsOfPages_22 flX9_42 (zOb_of rfl) rfl hS.e0_8 ?_
      refine zV_aload_n (pc := 25) (i := 0) dX9_thingsOfPages_25 rfl rfl ?_
      refine zV_get (pc := 26) (j := 0) dX9_thingsOfPages_26 flX9_12 (zOb_of rfl) rfl hS.e0_0 ?_
      refine zV_get (pc := 29) (j := 0) dX9_thingsOfPages_29 flX9_108 (zOb_of rfl) rfl hS.e1_0 ?_
      refine zV_iload_n (pc := 32) (i := 2) dX9_thingsOfPages_32 rfl rfl ?_
      refine zV_aald (pc := 33) dX9_thingsOfPages_33 (zAr_of rfl : zAr 75 2 2 6) ⟨rfl, rfl⟩ (by omega) (hS.th (by omega)) ?_
      refine zV_aload_n (pc := 34) (i := 0) dX9_thingsOfPages_34 rfl rfl ?_
      refine zV_get (pc := 35) (j := 0) dX9_thingsOfPages_35 flX9_12 (zOb_of rfl) rfl hS.e0_0 ?_
      refine zV_get (pc := 38) (j := 2) dX9_thingsOfPages_38 flX9_123 (zOb_of rfl) rfl rfl ?_
      refine zV_ivp (pc := 41) (ci := 1) dX9_thingsOfPages_41 klX9_244 mX1_isOf ⟨by decide, rfl⟩ rfl ⟨Nat.zero_le _, Nat.zero_le _⟩ (kX1_isOf2 hS hD (a := 3 + i) (zOb_th (by omega)) (hW.2 i (by omega) (by omega)).1 (hW.2 i (by omega) (by omega)).2.1 (hW.2 i (by omega) (by omega)).2.2.1 (hW.2 i (by omega) (by omega)).2.2.2 hh) (zOb_of rfl) rfl rfl (Nat.le_of_ble_eq_true rfl) ?_
      refine zV_if_eqb (pc := 44) (tgt := 53) dX9_thingsOfPages_44 (by decide) (fun c_44 => ?_) (fun c_44 => ?_)
      · refine zV_iinc (pc := 53) dX9_thingsOfPages_53 rfl rfl ?_
        refine zV_goto (pc := 56) (tgt := 4) dX9_thingsOfPages_56 (by decide) ?_
        first
          | exact ih (i + 1) _ (by omega) (by omega) (by rw [h2, show min (i + 1) (M 1 1) = i + 1 by omega]; exact (zso_t (q := (fun i => zis R m (fun d => zct (zTc M) (M 1 2) d i))) (by omega) c_44).symm)
          | exact ih (i + 1) _ (by omega) (by omega) (by rw [h2, show min (i + 1) (M 1 1) = i + 1 by omega]; exact (zso_f (q := (fun i => zis R m (fun d => zct (zTc M) (M 1 2) d i))) (by omega) c_44).symm)
          | exact ih (i + 1) _ (by omega) (by omega) (by rw [h2, show min (i + 1) (M 1 1) = min i (M 1 1) by omega])
      · refine zV_iload_n (pc := 47) (i := 1) dX9_thingsOfPages_47 rfl rfl ?_
        refine zV_iconst (pc := 48) dX9_thingsOfPages_48 ?_
        refine zV_iload_n (pc := 49) (i := 2) dX9_thingsOfPages_49 rfl rfl ?_
        refine zV_ishl (pc := 50) dX9_thingsOfPages_50 (z_shl (n := i.toNat) (by omega) (by omega)) ?_
        refine zV_ior (pc := 51) dX9_thingsOfPages_51 (z_or2 (by rw [h2]; exact zso_r _ _)) ?_
        refine zV_istore_n (pc := 52) (i := 1) dX9_thingsOfPages_52 rfl rfl ?_
        try dsimp only [List.set_cons_succ, List.set_cons_zero]
        refine zV_iinc (pc := 53) dX9_thingsOfPages_53 rfl rfl ?_
        refine zV_goto (pc := 56) (tgt := 4) dX9_thingsOfPages_56 (by decide) ?_
        first
          | exact ih (i + 1) _ (by omega) (by omega) (by rw [h2, show min (i + 1) (M 1 1) = i + 1 by omega]; exact (zso_t (q := (fun i => zis R m (fun d => zct (zTc M) (M 1 2) d i))) (by omega) c_44).symm)
          | exact ih (i + 1) _ (by omega) (by omega) (by rw [h2, show min (i + 1) (M 1 1) = i + 1 by omega]; exact (zso_f (q := (fun i => zis R m (fun d => zct (zTc M) (M 1 2) d i))) (by omega) c_44).symm)
          | exact ih (i + 1) _ (by omega) (by omega) (by rw [h2, show min (i + 1) (M 1 1) = min i (M 1 1) by omega])
set_option maxRecDepth 20000 in
set_option maxHeartbeats 2000000 in
theorem kX9_thingsOfPages (hR : zRo M) {R : Int → Int} {m : Int} (hD : zDi R m M) : zK g yX9_thingsOfPages xX9_thingsOfPages [zr 0] 75 M (zPp (zi (zso (fun i => zis R m (fun d => zct (zTc M) (M 1 2) d i)) (M 1 1).toNat)) 75 M) := by
  refine zK_of (ls0 := [zr 0, (3, 0), (3, 0)]) (by decide) rfl (by decide) rfl (Nat.le_of_ble_eq_true rfl) ?_
  refine zV_iconst (pc := 0) dX9_thingsOfPages_0 ?_
  refine zV_istore_n (pc := 1) (i := 1) dX9_thingsOfPages_1 rfl rfl ?_
  try dsimp only [List.set_cons_succ, List.set_cons_zero]
  refine zV_iconst (pc := 2) dX9_thingsOfPages_2 ?_
  refine zV_istore_n (pc := 3) (i := 2) dX9_thingsOfPages_3 rfl rfl ?_
  try dsimp only [List.set_cons_succ, List.set_cons_zero]
  exact kX9_topL hR hD 6 0 0 (by omega) (by omega) (by rw [show min 0 (M 1 1) = 0 by have := hR.2.1.1; omega]; rfl)
set_option maxRecDepth 20000 in
set_option maxHeartbeats 2000000 in
theorem kX9_kopL (hR : zRo M) {R : Int → Int} {m : Int} (hD : zDi R m M) {t : Int} (ht : 0 ≤ t ∧ t < M 1 1) : ∀ (k : Nat) (i acc : Int) (M1 : zM), i + k = 6 → 0 ≤ i → acc = zso (fun k => zis R m (fun d => zcm k (zTc M t 1) (zTc M t 2) (zTc M t 3) (M 1 2) d)) i.toNat → zFr (fun a _ => a = 24) M M1 → M1 24 1 = zTc M t 1 → M1 24 2 = zTc M t 2 → M1 24 3 = zTc M t 3 → zV g xX9_kindsOfPages (zPq (zi (zso (fun k => zis R m (fun d => zcm k (zTc M t 1) (zTc M t 2) (zTc M t 3) (M 1 2) d)) 6)) 75 (fun M1 => zFr (fun a _ => a = 24) M M1)) 34 [zr 0, zi t, zi acc, zi i] [] 75 M1 0 0 := by
  intro k
  induction k with
  | zero =>
    intro i acc M1 h0 h1 h2 h3 h4 h5 h6
    obtain ⟨hS, hW, hU, hh⟩ := id hR
    have hn := hW.1
    have tt := hW.2 t ht.1 ht.2
    have hS1 := hS.fr h3 (by decide)
    have e12 : zU M1 24 0 i 1 2 = M 1 2 := (zU_a _ _ _ _ (by decide)).trans (h3 _ _ (by decide))
    refine zV_iload_n (pc := 34) (i := 3) dX9_kindsOfPages_34 rfl rfl ?_
    refine zV_bipush (pc := 35) dX9_kindsOfPages_35 (by decide) ?_
    refine zV_icmp_ge (pc := 37) (tgt := 81) dX9_kindsOfPages_37 (by decide) (by omega) (fun c_37 => ?_) (fun c_37 => absurd (by omega) c_37)
    refine zV_iload_n (pc := 81) (i := 2) dX9_kindsOfPages_81 rfl rfl ?_
    refine zV_iret (pc := 82) dX9_kindsOfPages_82 trivial ⟨Nat.zero_le _, Nat.zero_le _⟩ ?_
    have ei : i = 6 := by omega
    subst ei
    exact ⟨by rw [h2]; rfl, rfl, h3⟩
  | succ k ih =>
    intro i acc M1 h0 h1 h2 h3 h4 h5 h6
    obtain ⟨hS, hW, hU, hh⟩ := id hR
    have hn := hW.1
    have tt := hW.2 t ht.1 ht.2
    have hS1 := hS.fr h3 (by decide)
    have e12 : zU M1 24 0 i 1 2 = M 1 2 := (zU_a _ _ _ _ (by decide)).trans (h3 _ _ (by decide))
    refine zV_iload_n (pc := 34) (i := 3) dX9_kindsOfPages_34 rfl rfl ?_
    refine zV_bipush (pc := 35) dX9_kindsOfPages_35 (by decide) ?_
    refine zV_icmp_ge (pc := 37) (tgt := 81) dX9_kindsOfPages_37 (by decide) (by omega) (fun c_37 => absurd c_37 (by omega)) (fun c_37 => ?_)
    refine zV_aload_n (pc := 40) (i := 0) dX9_kindsOfPages_40 rfl rfl ?_
    refine zV_get (pc := 41) (j := 9) dX9_kindsOfPages_41 flX9_49 (zOb_of rfl) rfl hS1.e0_9 ?_
    refine zV_iload_n (pc := 44) (i := 3) dX9_kindsOfPages_44 rfl rfl ?_
    refine zV_put (pc := 45) (j := 0) dX9_kindsOfPages_45 flX9_252 rfl (zOb_of rfl) rfl trivial ?_
    refine zV_aload_n (pc := 48) (i := 0) dX9_kindsOfPages_48 rfl rfl ?_
    refine zV_get (pc := 49) (j := 8) dX9_kindsOfPages_49 flX9_42 (zOb_of rfl) rfl ((zU_a _ _ _ _ (by decide)).trans hS1.e0_8) ?_
    refine zV_aload_n (pc := 52) (i := 0) dX9_kindsOfPages_52 rfl rfl ?_
    refine zV_get (pc := 53) (j := 9) dX9_kindsOfPages_53 flX9_49 (zOb_of rfl) rfl ((zU_a _ _ _ _ (by decide)).trans hS1.e0_9) ?_
    refine zV_aload_n (pc := 56) (i := 0) dX9_kindsOfPages_56 rfl rfl ?_
    refine zV_get (pc := 57) (j := 0) dX9_kindsOfPages_57 flX9_12 (zOb_of rfl) rfl ((zU_a _ _ _ _ (by decide)).trans hS1.e0_0) ?_
    refine zV_get (pc := 60) (j := 2) dX9_kindsOfPages_60 flX9_123 (zOb_of rfl) rfl rfl ?_
    refine zV_ivp (pc := 63) (ci := 1) dX9_kindsOfPages_63 klX9_244 mX1_isOf ⟨by decide, rfl⟩ rfl ⟨Nat.zero_le _, Nat.zero_le _⟩ (kX1_isOf2 (zSt.fr hS (h3.up (a := 24) (j := 0) (z := i) rfl) (by decide)) (hD.fr (h3.up (a := 24) (j := 0) (z := i) rfl) (fun a j q => by omega)) (a := 24) (zOb_of rfl) (by rw [zU_s]; omega) (by rw [zU_j _ _ _ _ (by decide), h4]; exact tt.2.1) (by rw [zU_j _ _ _ _ (by decide), h5]; exact tt.2.2.1) (by rw [zU_j _ _ _ _ (by decide), h6]; exact tt.2.2.2) (by rw [e12]; exact hh)) (zOb_of rfl) rfl rfl (Nat.le_of_ble_eq_true rfl) ?_
    have eq : zb (zis R m (fun d => zcm (zU M1 24 0 i 24 0) (zU M1 24 0 i 24 1) (zU M1 24 0 i 24 2) (zU M1 24 0 i 24 3) (zU M1 24 0 i 1 2) d)) = zb ((fun k => zis R m (fun d => zcm k (zTc M t 1) (zTc M t 2) (zTc M t 3) (M 1 2) d)) i) := by rw [zU_s, zU_j _ _ _ _ (by decide), zU_j _ _ _ _ (by decide), zU_j _ _ _ _ (by decide), h4, h5, h6, e12]
    rw [eq]
    refine zV_if_eqb (pc := 66) (tgt := 75) dX9_kindsOfPages_66 (by decide) (fun c_66 => ?_) (fun c_66 => ?_)
    · refine zV_iinc (pc := 75) dX9_kindsOfPages_75 rfl rfl ?_
      refine zV_goto (pc := 78) (tgt := 34) dX9_kindsOfPages_78 (by decide) ?_
      have f9 : zFr (fun a _ => a = 24) M (zU M1 24 0 i) := h3.up rfl
      have g1 : ∀ j, j ≠ 0 → zU M1 24 0 i 24 j = M1 24 j := fun j hj => zU_j _ _ _ _ hj
      first
        | exact ih (i + 1) _ _ (by omega) (by omega) (by rw [h2]; exact (zso_t (q := (fun k => zis R m (fun d => zcm k (zTc M t 1) (zTc M t 2) (zTc M t 3) (M 1 2) d))) (by omega) c_66).symm) f9 ((g1 1 (by decide)).trans h4) ((g1 2 (by decide)).trans h5) ((g1 3 (by decide)).trans h6)
        | exact ih (i + 1) _ _ (by omega) (by omega) (by rw [h2]; exact (zso_f (q := (fun k => zis R m (fun d => zcm k (zTc M t 1) (zTc M t 2) (zTc M t 3) (M 1 2) d))) (by omega) c_66).symm) f9 ((g1 1 (by decide)).trans h4) ((g1 2 (by decide)).trans h5) ((g1 3 (by decide)).trans h6)
    · refine zV_iload_n (pc := 69) (i := 2) dX9_kindsOfPages_69 rfl rfl ?_
      refine zV_iconst (pc := 70) dX9_kindsOfPages_70 ?_
      refine zV_iload_n (pc := 71) (i := 3) dX9_kindsOfPages_71 rfl rfl ?_
      refine zV_ishl (pc := 72) dX9_kindsOfPages_72 (z_shl (n := i.toNat) (by omega) (by omega)) ?_
      refine zV_ior (pc := 73) dX9_kindsOfPages_73 (z_or2 (by rw [h2]; exact zso_r _ _)) ?_
      refine zV_istore_n (pc := 74) (i := 2) dX9_kindsOfPages_74 rfl rfl ?_
      try dsimp only [List.set_cons_succ, List.set_cons_zero]
      refine zV_iinc (pc := 75) dX9_kindsOfPages_75 rfl rfl ?_
      refine zV_goto (pc := 78) (tgt := 34) dX9_kindsOfPages_78 (by decide) ?_
      have f9 : zFr (fun a _ => a = 24) M (zU M1 24 0 i) := h3.up rfl
      have g1 : ∀ j, j ≠ 0 → zU M1 24 0 i 24 j = M1 24 j := fun j hj => zU_j _ _ _ _ hj
      first
        | exact ih (i + 1) _ _ (by omega) (by omega) (by rw [h2]; exact (zso_t (q := (fun k => zis R m (fun d => zcm k (zTc M t 1) (zTc M t 2) (zTc M t 3) (M 1 2) d))) (by omega) c_66).symm) f9 ((g1 1 (by decide)).trans h4) ((g1 2 (by decide)).trans h5) ((g1 3 (by decide)).trans h6)
        | exact ih (i + 1) _ _ (by omega) (by omega) (by rw [h2]; exact (zso_f (q := (fun k => zis R m (fun d => zcm k (zTc M t 1) (zTc M t 2) (zTc M t 3) (M 1 2) d))) (by omega) c_66).symm) f9 ((g1 1 (by decide)).trans h4) ((g1 2 (by decide)).trans h5) ((g1 3 (by decide)).trans h6)
set_option maxRecDepth 20000 in
set_option maxHeartbeats 2000000 in
theorem kX9_kindsOfPages (hR : zRo M) {R : Int → Int} {m : Int} (hD : zDi R m M) {t : Int} (ht : 0 ≤ t ∧ t < M 1 1) : zK g yX9_kindsOfPages xX9_kindsOfPages [zr 0, zi t] 75 M (zPq (zi (zso (fun k => zis R m (fun d => zcm k (zTc M t 1) (zTc M t 2) (zTc M t 3) (M 1 2) d)) 6)) 75 (fun M1 => zFr (fun a _ => a = 24) M M1)) := by
  refine zK_of (ls0 := [zr 0, zi t, (3, 0), (3, 0)]) (by decide) rfl (by decide) rfl (Nat.le_of_ble_eq_true rfl) ?_
  obtain ⟨hS, hW, hU, hh⟩ := id hR
  have hn := hW.1
  refine zV_aload_n (pc := 0) (i := 0) dX9_kindsOfPages_0 rfl rfl ?_
  refine zV_get (pc := 1) (j := 0) dX9_kindsOfPages_1 flX9_12 (zOb_of rfl) rfl hS.e0_0 ?_
  refine zV_iload_n (pc := 4) (i := 1) dX9_kindsOfPages_4 rfl rfl ?_
  refine zV_ivp (pc := 5) (ci := 5) dX9_kindsOfPages_5 klX9_100 mX5_has ⟨by decide, rfl⟩ rfl ⟨Nat.zero_le _, Nat.zero_le _⟩ (kX5_has hS hn (by omega)) (zOb_of rfl) rfl rfl (Nat.le_of_ble_eq_true rfl) ?_
  refine zV_if_neb (pc := 8) (tgt := 14) dX9_kindsOfPages_8 (by decide) (fun c_8 => ?_) (fun c_8 => absurd ht c_8)
  refine zV_iconst (pc := 14) dX9_kindsOfPages_14 ?_
  refine zV_istore_n (pc := 15) (i := 2) dX9_kindsOfPages_15 rfl rfl ?_
  try dsimp only [List.set_cons_succ, List.set_cons_zero]
  refine zV_aload_n (pc := 16) (i := 0) dX9_kindsOfPages_16 rfl rfl ?_
  refine zV_get (pc := 17) (j := 9) dX9_kindsOfPages_17 flX9_49 (zOb_of rfl) rfl hS.e0_9 ?_
  refine zV_aload_n (pc := 20) (i := 0) dX9_kindsOfPages_20 rfl rfl ?_
  refine zV_get (pc := 21) (j := 0) dX9_kindsOfPages_21 flX9_12 (zOb_of rfl) rfl hS.e0_0 ?_
  refine zV_get (pc := 24) (j := 0) dX9_kindsOfPages_24 flX9_108 (zOb_of rfl) rfl hS.e1_0 ?_
  refine zV_iload_n (pc := 27) (i := 1) dX9_kindsOfPages_27 rfl rfl ?_
  refine zV_aald (pc := 28) dX9_kindsOfPages_28 (zAr_of rfl : zAr 75 2 2 6) ⟨rfl, rfl⟩ (by omega) (hS.th (by omega)) ?_
  refine zV_ivn (pc := 29) (ci := 8) dX9_kindsOfPages_29 klX9_248 mX8_become ⟨by decide, rfl⟩ rfl ⟨Nat.zero_le _, Nat.zero_le _⟩ (kX8_become (zOb_of rfl) (zOb_th (by omega))) (zOb_of rfl) rfl rfl (Nat.le_of_ble_eq_true rfl) (fun M1 q => ?_)
  refine zV_iconst (pc := 32) dX9_kindsOfPages_32 ?_
  refine zV_istore_n (pc := 33) (i := 3) dX9_kindsOfPages_33 rfl rfl ?_
  try dsimp only [List.set_cons_succ, List.set_cons_zero]
  obtain ⟨q0, q1, q2, q3, q4⟩ := q
  exact kX9_kopL hR hD ht 6 0 0 M1 (by omega) (by omega) rfl q4 q1 q2 q3
noncomputable def zdiA (M : zM) (s k t : Int) : Int := zif ((0 ≤ s ∧ s ≤ 3) ∧ (0 ≤ k ∧ k ≤ 1) ∧ (k = 1 → 0 ≤ t ∧ t < M 1 1)) (zif (M (44 + 2 * s) 0 = -1) (-11) (zif ((1 ≤ M (44 + 2 * s) 1 ∧ M (44 + 2 * s) 1 ≤ 20) ∧ zdo (M (45 + 2 * s)) (M (44 + 2 * s) 1)) (if k = 0 then zso (fun i => zis (M (45 + 2 * s)) (M (44 + 2 * s) 1) (fun d => zct (zTc M) (M 1 2) d i)) (M 1 1).toNat else zso (fun kd => zis (M (45 + 2 * s)) (M (44 + 2 * s) 1) (fun d => zcm kd (zTc M t 1) (zTc M t 2) (zTc M t 3) (M 1 2) d)) 6) (-2))) (-2)
set_option maxRecDepth 20000 in
set_option maxHeartbeats 2000000 in
theorem kX9_diary (hR : zRo M) (hHs : zShs M) {s k t : Int} (hs : -2147483648 ≤ s ∧ s ≤ 2147483647) (hk : -2147483648 ≤ k ∧ k ≤ 2147483647) (ht : -2147483648 ≤ t ∧ t ≤ 2147483647) : zK g yX9_diary xX9_diary [zr 0, zi s, zi k, zi t] 75 M (zPq (zi (zdiA M s k t)) 75 (fun M1 => zFr zSc M M1)) := by
  refine zK_of (ls0 := [zr 0, zi s, zi k, zi t]) (by decide) rfl (by decide) rfl (Nat.le_of_ble_eq_true rfl) ?_
  obtain ⟨hS, hW, hU, hh⟩ := id hR
  have hn := hW.1
  refine zV_iload_n (pc := 0) (i := 1) dX9_diary_0 rfl rfl ?_
  refine zV_isp (pc := 1) dX9_diary_1 klX9_228 mX9_isSheet rfl ⟨Nat.zero_le _, Nat.zero_le _⟩ (kX9_isSheet (by omega)) rfl rfl (Nat.le_of_ble_eq_true rfl) ?_
  refine zV_if_eqb (pc := 4) (tgt := 32) dX9_diary_4 (by decide) (fun c_4 => ?_) (fun c_4 => ?_)
  · refine zV_bipush (pc := 32) dX9_diary_32 (by decide) ?_
    refine zV_iret (pc := 34) dX9_diary_34 trivial ⟨Nat.zero_le _, Nat.zero_le _⟩ ?_
    refine ⟨congrArg (fun z => some (zi z)) (zif_f (fun q => ?_)).symm, rfl, zFr.rf⟩
    first
      | exact c_4 q.1
      | exact c_13 q.2.1
      | exact c_29 (q.2.2 (by omega))
  · refine zV_iload_n (pc := 7) (i := 2) dX9_diary_7 rfl rfl ?_
    refine zV_iconst (pc := 8) dX9_diary_8 ?_
    refine zV_iconst (pc := 9) dX9_diary_9 ?_
    refine zV_isp (pc := 10) dX9_diary_10 klX9_119 mX9_within rfl ⟨Nat.zero_le _, Nat.zero_le _⟩ (kX9_within (by omega) (by omega) (by omega)) rfl rfl (Nat.le_of_ble_eq_true rfl) ?_
    refine zV_if_eqb (pc := 13) (tgt := 32) dX9_diary_13 (by decide) (fun c_13 => ?_) (fun c_13 => ?_)
    · refine zV_bipush (pc := 32) dX9_diary_32 (by decide) ?_
      refine zV_iret (pc := 34) dX9_diary_34 trivial ⟨Nat.zero_le _, Nat.zero_le _⟩ ?_
      refine ⟨congrArg (fun z => some (zi z)) (zif_f (fun q => ?_)).symm, rfl, zFr.rf⟩
      first
        | exact c_4 q.1
        | exact c_13 q.2.1
        | exact c_29 (q.2.2 (by omega))
    · refine zV_iload_n (pc := 16) (i := 2) dX9_diary_16 rfl rfl ?_
      refine zV_iconst (pc := 17) dX9_diary_17 ?_
      refine zV_icmp_ne (pc := 18) (tgt := 35) dX9_diary_18 (by decide) (by omega) (fun c_18 => ?_) (fun c_18 => ?_)
      · refine zV_aload_n (pc := 35) (i := 0) dX9_diary_35 rfl rfl ?_
        refine zV_get (pc := 36) (j := 10) dX9_diary_36 flX9_55 (zOb_of rfl) rfl hS.e0_10 ?_
        refine zV_iload_n (pc := 39) (i := 1) dX9_diary_39 rfl rfl ?_
        refine zV_aald (pc := 40) dX9_diary_40 (zAr_of rfl : zAr 75 25 4 4) ⟨rfl, rfl⟩ (by omega) (hS.sh (by omega)) ?_
        refine zV_ivp (pc := 41) (ci := 6) dX9_diary_41 klX9_231 mX6_isMissing ⟨by decide, rfl⟩ rfl ⟨Nat.zero_le _, Nat.zero_le _⟩ (kX6_isMissing hS (s := s) (by omega) (hHs s (by omega) (by omega)).1) (zOb_sh (by omega)) rfl rfl (Nat.le_of_ble_eq_true rfl) ?_
        refine zV_if_eqb (pc := 44) (tgt := 50) dX9_diary_44 (by decide) (fun c_44 => ?_) (fun c_44 => ?_)
        · refine zV_aload_n (pc := 50) (i := 0) dX9_diary_50 rfl rfl ?_
          refine zV_get (pc := 51) (j := 8) dX9_diary_51 flX9_42 (zOb_of rfl) rfl hS.e0_8 ?_
          refine zV_aload_n (pc := 54) (i := 0) dX9_diary_54 rfl rfl ?_
          refine zV_get (pc := 55) (j := 10) dX9_diary_55 flX9_55 (zOb_of rfl) rfl hS.e0_10 ?_
          refine zV_iload_n (pc := 58) (i := 1) dX9_diary_58 rfl rfl ?_
          refine zV_aald (pc := 59) dX9_diary_59 (zAr_of rfl : zAr 75 25 4 4) ⟨rfl, rfl⟩ (by omega) (hS.sh (by omega)) ?_
          refine zV_ivs (pc := 60) (ci := 1) dX9_diary_60 klX9_235 mX1_read ⟨by decide, rfl⟩ rfl ⟨Nat.zero_le _, Nat.zero_le _⟩ (kX1_read hS (s := s) (by omega) (hHs s (by omega) (by omega)).2.2 (hHs s (by omega) (by omega)).2.1) (zOb_of rfl) rfl rfl (Nat.le_of_ble_eq_true rfl) ?_
          rintro w N9 M1 ⟨rfl, fr, ⟨rfl, q⟩ | ⟨rfl, q⟩⟩
          · refine zV_if_ne (pc := 63) (tgt := 69) dX9_diary_63 (by decide) (by decide) (fun e => absurd rfl e) (fun _ => ?_)
            refine zV_bipush (pc := 66) dX9_diary_66 (by decide) ?_
            refine zV_iret (pc := 68) dX9_diary_68 trivial ⟨Nat.zero_le _, Nat.zero_le _⟩ ?_
            exact ⟨congrArg (fun z => some (zi z)) ((zif_t ⟨c_4, c_13, fun e => by first | exact c_29 | omega⟩).trans ((zif_f c_44).trans (zif_f q))).symm, rfl, fr.mono (fun a j y => zDf_c y)⟩
          · refine zV_if_ne (pc := 63) (tgt := 69) dX9_diary_63 (by decide) (by decide) (fun _ => ?_) (fun e => absurd e (by decide))
            refine zV_iload_n (pc := 69) (i := 2) dX9_diary_69 rfl rfl ?_
            have fr2 := fr.mono (fun a j y => zDf_c y)
            have hR1 := (hR.fr fr2).1
            have e11 : M1 1 1 = M 1 1 := fr2 _ _ (by unfold zSc; omega)
            have e12 : M1 1 2 = M 1 2 := fr2 _ _ (by unfold zSc; omega)
            have eT : ∀ i, 0 ≤ i → i < M 1 1 → ∀ f, zTc M1 i f = zTc M i f := fun i i0 i1 f => fr2 _ _ (by unfold zSc; omega)
            refine zV_if_ne (pc := 70) (tgt := 80) dX9_diary_70 (by decide) (by omega) (fun c_70 => ?_) (fun c_70 => ?_)
            · refine zV_aload_n (pc := 80) (i := 0) dX9_diary_80 rfl rfl ?_
              refine zV_iload_n (pc := 81) (i := 3) dX9_diary_81 rfl rfl ?_
              have c29 : 0 ≤ t ∧ t < M 1 1 := by first | exact c_29 | omega
              refine zV_ivq (pc := 82) (ci := 9) dX9_diary_82 klX9_241 mX9_kindsOfPages ⟨by decide, rfl⟩ rfl ⟨Nat.zero_le _, Nat.zero_le _⟩ (kX9_kindsOfPages hR1 q (t := t) (by rw [e11]; exact c29)) (zOb_of rfl) rfl rfl (Nat.le_of_ble_eq_true rfl) (fun M2 q2 => ?_)
              refine zV_iret (pc := 85) dX9_diary_85 trivial ⟨Nat.zero_le _, Nat.zero_le _⟩ ?_
              refine ⟨congrArg (fun z => some (zi z)) (Eq.trans ?_ ((zif_t ⟨c_4, c_13, fun e => by first | exact c_29 | omega⟩).trans ((zif_f c_44).trans ((zif_t ⟨q.1, q.2.1⟩).trans (if_neg c_70)))).symm), rfl, fr2.tr (q2.mono (fun a j y => by unfold zSc; omega))⟩
              rw [e12, eT t c29.1 c29.2, eT t c29.1 c29.2, eT t c29.1 c29.2]
            · refine zV_aload_n (pc := 73) (i := 0) dX9_diary_73 rfl rfl ?_
              refine zV_ivp (pc := 74) (ci := 9) dX9_diary_74 klX9_238 mX9_thingsOfPages ⟨by decide, rfl⟩ rfl ⟨Nat.zero_le _, Nat.zero_le _⟩ (kX9_thingsOfPages hR1 q) (zOb_of rfl) rfl rfl (Nat.le_of_ble_eq_true rfl) ?_
              refine zV_goto (pc := 77) (tgt := 85) dX9_diary_77 (by decide) ?_
              refine zV_iret (pc := 85) dX9_diary_85 trivial ⟨Nat.zero_le _, Nat.zero_le _⟩ ?_
              refine ⟨congrArg (fun z => some (zi z)) (Eq.trans ?_ ((zif_t ⟨c_4, c_13, fun e => by first | exact c_29 | omega⟩).trans ((zif_f c_44).trans ((zif_t ⟨q.1, q.2.1⟩).trans (if_pos c_70)))).symm), rfl, fr2⟩
              rw [e12, e11]
              refine zso_c (fun i i0 i1 => ?_)
              unfold zct
              rw [eT i i0 (by omega), eT i i0 (by omega), eT i i0 (by omega), eT i i0 (by omega)]
        · refine zV_bipush (pc := 47) dX9_diary_47 (by decide) ?_
          refine zV_iret (pc := 49) dX9_diary_49 trivial ⟨Nat.zero_le _, Nat.zero_le _⟩ ?_
          exact ⟨congrArg (fun z => some (zi z)) ((zif_t ⟨c_4, c_13, fun e => by first | exact c_29 | omega⟩).trans (zif_t c_44)).symm, rfl, zFr.rf⟩
      · refine zV_aload_n (pc := 21) (i := 0) dX9_diary_21 rfl rfl ?_
        refine zV_get (pc := 22) (j := 0) dX9_diary_22 flX9_12 (zOb_of rfl) rfl hS.e0_0 ?_
        refine zV_iload_n (pc := 25) (i := 3) dX9_diary_25 rfl rfl ?_
        refine zV_ivp (pc := 26) (ci := 5) dX9_diary_26 klX9_100 mX5_has ⟨by decide, rfl⟩ rfl ⟨Nat.zero_le _, Nat.zero_le _⟩ (kX5_has hS hW.1 (by omega)) (zOb_of rfl) rfl rfl (Nat.le_of_ble_eq_true rfl) ?_
        refine zV_if_neb (pc := 29) (tgt := 35) dX9_diary_29 (by decide) (fun c_29 => ?_) (fun c_29 => ?_)
        · refine zV_aload_n (pc := 35) (i := 0) dX9_diary_35 rfl rfl ?_
          refine zV_get (pc := 36) (j := 10) dX9_diary_36 flX9_55 (zOb_of rfl) rfl hS.e0_10 ?_
          refine zV_iload_n (pc := 39) (i := 1) dX9_diary_39 rfl rfl ?_
          refine zV_aald (pc := 40) dX9_diary_40 (zAr_of rfl : zAr 75 25 4 4) ⟨rfl, rfl⟩ (by omega) (hS.sh (by omega)) ?_
          refine zV_ivp (pc := 41) (ci := 6) dX9_diary_41 klX9_231 mX6_isMissing ⟨by decide, rfl⟩ rfl ⟨Nat.zero_le _, Nat.zero_le _⟩ (kX6_isMissing hS (s := s) (by omega) (hHs s (by omega) (by omega)).1) (zOb_sh (by omega)) rfl rfl (Nat.le_of_ble_eq_true rfl) ?_
          refine zV_if_eqb (pc := 44) (tgt := 50) dX9_diary_44 (by decide) (fun c_44 => ?_) (fun c_44 => ?_)
          · refine zV_aload_n (pc := 50) (i := 0) dX9_diary_50 rfl rfl ?_
            refine zV_get (pc := 51) (j := 8) dX9_diary_51 flX9_42 (zOb_of rfl) rfl hS.e0_8 ?_
            refine zV_aload_n (pc := 54) (i := 0) dX9_diary_54 rfl rfl ?_
            refine zV_get (pc := 55) (j := 10) dX9_diary_55 flX9_55 (zOb_of rfl) rfl hS.e0_10 ?_
            refine zV_iload_n (pc := 58) (i := 1) dX9_diary_58 rfl rfl ?_
            refine zV_aald (pc := 59) dX9_diary_59 (zAr_of rfl : zAr 75 25 4 4) ⟨rfl, rfl⟩ (by omega) (hS.sh (by omega)) ?_
            refine zV_ivs (pc := 60) (ci := 1) dX9_diary_60 klX9_235 mX1_read ⟨by decide, rfl⟩ rfl ⟨Nat.zero_le _, Nat.zero_le _⟩ (kX1_read hS (s := s) (by omega) (hHs s (by omega) (by omega)).2.2 (hHs s (by omega) (by omega)).2.1) (zOb_of rfl) rfl rfl (Nat.le_of_ble_eq_true rfl) ?_
            rintro w N9 M1 ⟨rfl, fr, ⟨rfl, q⟩ | ⟨rfl, q⟩⟩
            · refine zV_if_ne (pc := 63) (tgt := 69) dX9_diary_63 (by decide) (by decide) (fun e => absurd rfl e) (fun _ => ?_)
              refine zV_bipush (pc := 66) dX9_diary_66 (by decide) ?_
              refine zV_iret (pc := 68) dX9_diary_68 trivial ⟨Nat.zero_le _, Nat.zero_le _⟩ ?_
              exact ⟨congrArg (fun z => some (zi z)) ((zif_t ⟨c_4, c_13, fun e => by first | exact c_29 | omega⟩).trans ((zif_f c_44).trans (zif_f q))).symm, rfl, fr.mono (fun a j y => zDf_c y)⟩
            · refine zV_if_ne (pc := 63) (tgt := 69) dX9_diary_63 (by decide) (by decide) (fun _ => ?_) (fun e => absurd e (by decide))
              refine zV_iload_n (pc := 69) (i := 2) dX9_diary_69 rfl rfl ?_
              have fr2 := fr.mono (fun a j y => zDf_c y)
              have hR1 := (hR.fr fr2).1
              have e11 : M1 1 1 = M 1 1 := fr2 _ _ (by unfold zSc; omega)
              have e12 : M1 1 2 = M 1 2 := fr2 _ _ (by unfold zSc; omega)
              have eT : ∀ i, 0 ≤ i → i < M 1 1 → ∀ f, zTc M1 i f = zTc M i f := fun i i0 i1 f => fr2 _ _ (by unfold zSc; omega)
              refine zV_if_ne (pc := 70) (tgt := 80) dX9_diary_70 (by decide) (by omega) (fun c_70 => ?_) (fun c_70 => ?_)
              · refine zV_aload_n (pc := 80) (i := 0) dX9_diary_80 rfl rfl ?_
                refine zV_iload_n (pc := 81) (i := 3) dX9_diary_81 rfl rfl ?_
                have c29 : 0 ≤ t ∧ t < M 1 1 := by first | exact c_29 | omega
                refine zV_ivq (pc := 82) (ci := 9) dX9_diary_82 klX9_241 mX9_kindsOfPages ⟨by decide, rfl⟩ rfl ⟨Nat.zero_le _, Nat.zero_le _⟩ (kX9_kindsOfPages hR1 q (t := t) (by rw [e11]; exact c29)) (zOb_of rfl) rfl rfl (Nat.le_of_ble_eq_true rfl) (fun M2 q2 => ?_)
                refine zV_iret (pc := 85) dX9_diary_85 trivial ⟨Nat.zero_le _, Nat.zero_le _⟩ ?_
                refine ⟨congrArg (fun z => some (zi z)) (Eq.trans ?_ ((zif_t ⟨c_4, c_13, fun e => by first | exact c_29 | omega⟩).trans ((zif_f c_44).trans ((zif_t ⟨q.1, q.2.1⟩).trans (if_neg c_70)))).symm), rfl, fr2.tr (q2.mono (fun a j y => by unfold zSc; omega))⟩
                rw [e12, eT t c29.1 c29.2, eT t c29.1 c29.2, eT t c29.1 c29.2]
              · refine zV_aload_n (pc := 73) (i := 0) dX9_diary_73 rfl rfl ?_
                refine zV_ivp (pc := 74) (ci := 9) dX9_diary_74 klX9_238 mX9_thingsOfPages ⟨by decide, rfl⟩ rfl ⟨Nat.zero_le _, Nat.zero_le _⟩ (kX9_thingsOfPages hR1 q) (zOb_of rfl) rfl rfl (Nat.le_of_ble_eq_true rfl) ?_
                refine zV_goto (pc := 77) (tgt := 85) dX9_diary_77 (by decide) ?_
                refine zV_iret (pc := 85) dX9_diary_85 trivial ⟨Nat.zero_le _, Nat.zero_le _⟩ ?_
                refine ⟨congrArg (fun z => some (zi z)) (Eq.trans ?_ ((zif_t ⟨c_4, c_13, fun e => by first | exact c_29 | omega⟩).trans ((zif_f c_44).trans ((zif_t ⟨q.1, q.2.1⟩).trans (if_pos c_70)))).symm), rfl, fr2⟩
                rw [e12, e11]
                refine zso_c (fun i i0 i1 => ?_)
                unfold zct
                rw [eT i i0 (by omega), eT i i0 (by omega), eT i i0 (by omega), eT i i0 (by omega)]
          · refine zV_bipush (pc := 47) dX9_diary_47 (by decide) ?_
            refine zV_iret (pc := 49) dX9_diary_49 trivial ⟨Nat.zero_le _, Nat.zero_le _⟩ ?_
            exact ⟨congrArg (fun z => some (zi z)) ((zif_t ⟨c_4, c_13, fun e => by first | exact c_29 | omega⟩).trans (zif_t c_44)).symm, rfl, zFr.rf⟩
        · refine zV_bipush (pc := 32) dX9_diary_32 (by decide) ?_
          refine zV_iret (pc := 34) dX9_diary_34 trivial ⟨Nat.zero_le _, Nat.zero_le _⟩ ?_
          refine ⟨congrArg (fun z => some (zi z)) (zif_f (fun q => ?_)).symm, rfl, zFr.rf⟩
          first
            | exact c_4 q.1
            | exact c_13 q.2.1
            | exact c_29 (q.2.2 (by omega))
def zroP (M : zM) (s k : Int) : zP := fun w N' M1 => N' = 75 ∧ zFr zSc M M1 ∧ ((¬ ((0 ≤ s ∧ s ≤ 3) ∧ (0 ≤ k ∧ k ≤ 1) ∧ M (44 + 2 * s) 0 ≠ -1 ∧ ((1 ≤ M (44 + 2 * s) 1 ∧ M (44 + 2 * s) 1 ≤ 20) ∧ zdo (M (45 + 2 * s)) (M (44 + 2 * s) 1))) ∧ w = some (zl (-4611686018427387904))) ∨ (((0 ≤ s ∧ s ≤ 3) ∧ (0 ≤ k ∧ k ≤ 1) ∧ M (44 + 2 * s) 0 ≠ -1 ∧ ((1 ≤ M (44 + 2 * s) 1 ∧ M (44 + 2 * s) 1 ≤ 20) ∧ zdo (M (45 + 2 * s)) (M (44 + 2 * s) 1))) ∧ ∃ f : Int → Int, zdt (M (45 + 2 * s)) (M (44 + 2 * s) 1) f ∧ w = some (zl (if k = 0 then zper (M (45 + 2 * s)) (M (44 + 2 * s) 1) else ztw f (M (45 + 2 * s)) (M (45 + 2 * s) (M (44 + 2 * s) 1 - 1)) (M (44 + 2 * s) 1) 60))))
set_option maxRecDepth 20000 in
set_option maxHeartbeats 2000000 in
theorem kX9_rounds (hR : zRo M) (hHs : zShs M) {s k : Int} (hs : -2147483648 ≤ s ∧ s ≤ 2147483647) (hk : -2147483648 ≤ k ∧ k ≤ 2147483647) : zK g yX9_rounds xX9_rounds [zr 0, zi s, zi k] 75 M (zroP M s k) := by
  refine zK_of (ls0 := [zr 0, zi s, zi k]) (by decide) rfl (by decide) rfl (Nat.le_of_ble_eq_true rfl) ?_
  obtain ⟨hS, hW, hU, hh⟩ := id hR
  have hn := hW.1
  refine zV_iload_n (pc := 0) (i := 1) dX9_rounds_0 rfl rfl ?_
  refine zV_isp (pc := 1) dX9_rounds_1 klX9_228 mX9_isSheet rfl ⟨Nat.zero_le _, Nat.zero_le _⟩ (kX9_isSheet (by omega)) rfl rfl (Nat.le_of_ble_eq_true rfl) ?_
  refine zV_if_eqb (pc := 4) (tgt := 44) dX9_rounds_4 (by decide) (fun c_4 => ?_) (fun c_4 => ?_)
  · refine zV_ldc2 (pc := 44) dX9_rounds_44 kiX9_184 ?_
    refine zV_lret (pc := 47) dX9_rounds_47 trivial ⟨Nat.zero_le _, Nat.zero_le _⟩ ?_
    refine ⟨rfl, zFr.rf, Or.inl ⟨fun q => ?_, rfl⟩⟩
    first
      | exact c_4 q.1
      | exact c_13 q.2.1
      | exact q.2.2.1 c_25
  · refine zV_iload_n (pc := 7) (i := 2) dX9_rounds_7 rfl rfl ?_
    refine zV_iconst (pc := 8) dX9_rounds_8 ?_
    refine zV_iconst (pc := 9) dX9_rounds_9 ?_
    refine zV_isp (pc := 10) dX9_rounds_10 klX9_119 mX9_within rfl ⟨Nat.zero_le _, Nat.zero_le _⟩ (kX9_within (by omega) (by omega) (by omega)) rfl rfl (Nat.le_of_ble_eq_true rfl) ?_
    refine zV_if_eqb (pc := 13) (tgt := 44) dX9_rounds_13 (by decide) (fun c_13 => ?_) (fun c_13 => ?_)
    · refine zV_ldc2 (pc := 44) dX9_rounds_44 kiX9_184 ?_
      refine zV_lret (pc := 47) dX9_rounds_47 trivial ⟨Nat.zero_le _, Nat.zero_le _⟩ ?_
      refine ⟨rfl, zFr.rf, Or.inl ⟨fun q => ?_, rfl⟩⟩
      first
        | exact c_4 q.1
        | exact c_13 q.2.1
        | exact q.2.2.1 c_25
    · refine zV_aload_n (pc := 16) (i := 0) dX9_rounds_16 rfl rfl ?_
      refine zV_get (pc := 17) (j := 10) dX9_rounds_17 flX9_55 (zOb_of rfl) rfl hS.e0_10 ?_
      refine zV_iload_n (pc := 20) (i := 1) dX9_rounds_20 rfl rfl ?_
      refine zV_aald (pc := 21) dX9_rounds_21 (zAr_of rfl : zAr 75 25 4 4) ⟨rfl, rfl⟩ (by omega) (hS.sh (by omega)) ?_
      refine zV_ivp (pc := 22) (ci := 6) dX9_rounds_22 klX9_231 mX6_isMissing ⟨by decide, rfl⟩ rfl ⟨Nat.zero_le _, Nat.zero_le _⟩ (kX6_isMissing hS (s := s) (by omega) (hHs s (by omega) (by omega)).1) (zOb_sh (by omega)) rfl rfl (Nat.le_of_ble_eq_true rfl) ?_
      refine zV_if_neb (pc := 25) (tgt := 44) dX9_rounds_25 (by decide) (fun c_25 => ?_) (fun c_25 => ?_)
      · refine zV_ldc2 (pc := 44) dX9_rounds_44 kiX9_184 ?_
        refine zV_lret (pc := 47) dX9_rounds_47 trivial ⟨Nat.zero_le _, Nat.zero_le _⟩ ?_
        refine ⟨rfl, zFr.rf, Or.inl ⟨fun q => ?_, rfl⟩⟩
        first
          | exact c_4 q.1
          | exact c_13 q.2.1
          | exact q.2.2.1 c_25
      · refine zV_aload_n (pc := 28) (i := 0) dX9_rounds_28 rfl rfl ?_
        refine zV_get (pc := 29) (j := 8) dX9_rounds_29 flX9_42 (zOb_of rfl) rfl hS.e0_8 ?_
        refine zV_aload_n (pc := 32) (i := 0) dX9_rounds_32 rfl rfl ?_
        refine zV_get (pc := 33) (j := 10) dX9_rounds_33 flX9_55 (zOb_of rfl) rfl hS.e0_10 ?_
        refine zV_iload_n (pc := 36) (i := 1) dX9_rounds_36 rfl rfl ?_
        refine zV_aald (pc := 37) dX9_rounds_37 (zAr_of rfl : zAr 75 25 4 4) ⟨rfl, rfl⟩ (by omega) (hS.sh (by omega)) ?_
        refine zV_ivs (pc := 38) (ci := 1) dX9_rounds_38 klX9_235 mX1_read ⟨by decide, rfl⟩ rfl ⟨Nat.zero_le _, Nat.zero_le _⟩ (kX1_read hS (s := s) (by omega) (hHs s (by omega) (by omega)).2.2 (hHs s (by omega) (by omega)).2.1) (zOb_of rfl) rfl rfl (Nat.le_of_ble_eq_true rfl) ?_
        rintro w N9 M1 ⟨rfl, fr, ⟨rfl, q⟩ | ⟨rfl, q⟩⟩
        · refine zV_if_ne (pc := 41) (tgt := 48) dX9_rounds_41 (by decide) (by decide) (fun e => absurd rfl e) (fun _ => ?_)
          refine zV_ldc2 (pc := 44) dX9_rounds_44 kiX9_184 ?_
          refine zV_lret (pc := 47) dX9_rounds_47 trivial ⟨Nat.zero_le _, Nat.zero_le _⟩ ?_
          exact ⟨rfl, fr.mono (fun a j y => zDf_c y), Or.inl ⟨fun y => q y.2.2.2, rfl⟩⟩
        · refine zV_if_ne (pc := 41) (tgt := 48) dX9_rounds_41 (by decide) (by decide) (fun _ => ?_) (fun e => absurd e (by decide))
          have fr2 := fr.mono (fun a j y => zDf_c y)
          have hS1 := (hR.fr fr2).1.1
          have e3 := q.2.2.2.2.2.1
          have z9 := ztw_b (f := M1 23) (R := M (45 + 2 * s)) (l := M1 21 3) (m := M (44 + 2 * s) 1) 60
          refine zV_iload_n (pc := 48) (i := 2) dX9_rounds_48 rfl rfl ?_
          refine zV_if_ne (pc := 49) (tgt := 62) dX9_rounds_49 (by decide) (by omega) (fun c_49 => ?_) (fun c_49 => ?_)
          · refine zV_aload_n (pc := 62) (i := 0) dX9_rounds_62 rfl rfl ?_
            refine zV_get (pc := 63) (j := 8) dX9_rounds_63 flX9_42 (zOb_of rfl) rfl hS1.e0_8 ?_
            refine zV_ivp (pc := 66) (ci := 1) dX9_rounds_66 klX9_259 mX1_twoRounds ⟨by decide, rfl⟩ rfl ⟨Nat.zero_le _, Nat.zero_le _⟩ (kX1_twoRounds hS1 q) (zOb_of rfl) rfl rfl (Nat.le_of_ble_eq_true rfl) ?_
            refine zV_i2l (pc := 69) dX9_rounds_69 (by omega) ?_
            refine zV_lret (pc := 70) dX9_rounds_70 trivial ⟨Nat.zero_le _, Nat.zero_le _⟩ ?_
            refine ⟨rfl, fr2, Or.inr ⟨⟨c_4, c_13, c_25, q.1, q.2.1⟩, M1 23, q.2.2.2.2.2.2, ?_⟩⟩
            first
              | (rw [if_pos c_49])
              | (rw [if_neg c_49, ← e3])
          · refine zV_aload_n (pc := 52) (i := 0) dX9_rounds_52 rfl rfl ?_
            refine zV_get (pc := 53) (j := 8) dX9_rounds_53 flX9_42 (zOb_of rfl) rfl hS1.e0_8 ?_
            refine zV_ivp (pc := 56) (ci := 1) dX9_rounds_56 klX9_255 mX1_periods ⟨by decide, rfl⟩ rfl ⟨Nat.zero_le _, Nat.zero_le _⟩ (kX1_periods hS1 q) (zOb_of rfl) rfl rfl (Nat.le_of_ble_eq_true rfl) ?_
            refine zV_goto (pc := 59) (tgt := 70) dX9_rounds_59 (by decide) ?_
            refine zV_lret (pc := 70) dX9_rounds_70 trivial ⟨Nat.zero_le _, Nat.zero_le _⟩ ?_
            refine ⟨rfl, fr2, Or.inr ⟨⟨c_4, c_13, c_25, q.1, q.2.1⟩, M1 23, q.2.2.2.2.2.2, ?_⟩⟩
            first
              | (rw [if_pos c_49])
              | (rw [if_neg c_49, ← e3])
end
