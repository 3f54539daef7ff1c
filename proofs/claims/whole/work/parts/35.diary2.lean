/-! DIARIES: whose, of which round (printed by wip/whole/p35.py) -/
/-- in the diary's marks: the days of (b, p) up to the last are told -/
def ztr (f : Int → Int) (l b p : Int) : Prop := ∀ e : Int, 0 ≤ e → b + e * p ≤ l → f (b + e * p) = 1
def zbh (d b p : Int) : Prop := b ≤ d ∧ 0 < p ∧ (d - b) % p = 0
section
variable {g : zG} {N : Nat} {M : zM}
set_option maxRecDepth 20000 in
set_option maxHeartbeats 2000000 in
theorem kX1_ioL (hS : zSt M) {R : Int → Int} {m : Int} (hD : zDi R m M) {a h : Int} (hO : zOb 75 a 8) (hk : 0 ≤ M a 0 ∧ M a 0 ≤ 5) (hn : 0 ≤ M a 1 ∧ M a 1 ≤ 9) (hp : 1 ≤ M a 2 ∧ M a 2 ≤ 60) (hb : 0 ≤ M a 3 ∧ M a 3 ≤ 59) (hh : 0 ≤ h ∧ h ≤ 127) : ∀ (k : Nat) (i : Int), i + k = M 21 3 + 1 → 0 ≤ i → (∀ d : Int, 0 ≤ d → d < i → (M 23 d = 1 ↔ (zcm (M a 0) (M a 1) (M a 2) (M a 3) h d))) → zV g xX1_isOf (zPp (zi (zb (∀ d : Int, 0 ≤ d → d ≤ M 21 3 → (M 23 d = 1 ↔ (zcm (M a 0) (M a 1) (M a 2) (M a 3) h d))))) 75 M) 2 [zr 21, zr a, zi h, zi i] [] 75 M 0 0 := by
  intro k
  induction k with
  | zero =>
    intro i h0 h1 h2
    obtain ⟨hm, ho, hr, e1, e2, e3, ht⟩ := id hD
    have hl := (ho (m - 1) (by omega) (by omega)).1
    have h00 := (ho 0 (by omega) (by omega)).1
    refine zV_iload_n (pc := 2) (i := 3) dX1_isOf_2 rfl rfl ?_
    refine zV_aload_n (pc := 3) (i := 0) dX1_isOf_3 rfl rfl ?_
    refine zV_get (pc := 4) (j := 3) dX1_isOf_4 flX1_35 (zOb_of rfl) rfl rfl ?_
    refine zV_icmp_gt (pc := 7) (tgt := 33) dX1_isOf_7 (by decide) (by omega) (fun c_7 => ?_) (fun c_7 => absurd (by omega) c_7)
    refine zV_iconst (pc := 33) dX1_isOf_33 ?_
    refine zV_iret (pc := 34) dX1_isOf_34 (by first | exact zok_b1 | exact zok_b0 | exact zok_b) ⟨Nat.zero_le _, Nat.zero_le _⟩ ?_
    exact zPt (fun d d0 d1 => h2 d d0 (by omega))
  | succ k ih =>
    intro i h0 h1 h2
    obtain ⟨hm, ho, hr, e1, e2, e3, ht⟩ := id hD
    have hl := (ho (m - 1) (by omega) (by omega)).1
    have h00 := (ho 0 (by omega) (by omega)).1
    refine zV_iload_n (pc := 2) (i := 3) dX1_isOf_2 rfl rfl ?_
    refine zV_aload_n (pc := 3) (i := 0) dX1_isOf_3 rfl rfl ?_
    refine zV_get (pc := 4) (j := 3) dX1_isOf_4 flX1_35 (zOb_of rfl) rfl rfl ?_
    refine zV_icmp_gt (pc := 7) (tgt := 33) dX1_isOf_7 (by decide) (by omega) (fun c_7 => absurd c_7 (by omega)) (fun c_7 => ?_)
    refine zV_aload_n (pc := 10) (i := 0) dX1_isOf_10 rfl rfl ?_
    refine zV_get (pc := 11) (j := 4) dX1_isOf_11 flX1_15 (zOb_of rfl) rfl hS.e21_4 ?_
    refine zV_iload_n (pc := 14) (i := 3) dX1_isOf_14 rfl rfl ?_
    refine zV_zald (pc := 15) dX1_isOf_15 (zAr_of rfl : zAr 75 23 1 400) (by omega) rfl ?_
    refine zV_aload_n (pc := 16) (i := 1) dX1_isOf_16 rfl rfl ?_
    refine zV_iload_n (pc := 17) (i := 3) dX1_isOf_17 rfl rfl ?_
    refine zV_iload_n (pc := 18) (i := 2) dX1_isOf_18 rfl rfl ?_
    refine zV_ivp (pc := 19) (ci := 8) dX1_isOf_19 klX1_42 mX8_comes ⟨by decide, rfl⟩ rfl ⟨Nat.zero_le _, Nat.zero_le _⟩ (kX8_comes hO hk hn hp hb (by omega) hh) hO rfl rfl (Nat.le_of_ble_eq_true rfl) ?_
    have hz := zb_r (zcm (M a 0) (M a 1) (M a 2) (M a 3) h i)
    have ti := (ht i h1 (by omega)).1
    refine zV_icmp_eq (pc := 22) (tgt := 27) dX1_isOf_22 (by decide) (by omega) (fun c_22 => ?_) (fun c_22 => ?_)
    · refine zV_iinc (pc := 27) dX1_isOf_27 rfl rfl ?_
      try dsimp only [List.set_cons_succ, List.set_cons_zero]
      refine zV_goto (pc := 30) (tgt := 2) dX1_isOf_30 (by decide) ?_
      refine ih (i + 1) (by omega) (by omega) (fun d d0 d1 => ?_)
      by_cases ed : d = i
      · subst ed
        rw [c_22]
        exact zb_1
      · exact h2 d d0 (by omega)
    · refine zV_iconst (pc := 25) dX1_isOf_25 ?_
      refine zV_iret (pc := 26) dX1_isOf_26 (by first | exact zok_b1 | exact zok_b0 | exact zok_b) ⟨Nat.zero_le _, Nat.zero_le _⟩ ?_
      refine zPf (fun q => c_22 ?_)
      have qi := q i h1 (by omega)
      have ti := (ht i h1 (by omega)).1
      by_cases hc : zcm (M a 0) (M a 1) (M a 2) (M a 3) h i
      · rw [zb_t hc]
        exact qi.mpr hc
      · rw [zb_f hc]
        have : M 23 i ≠ 1 := fun y => hc (qi.mp y)
        omega
set_option maxRecDepth 20000 in
set_option maxHeartbeats 2000000 in
theorem kX1_isOf (hS : zSt M) {R : Int → Int} {m : Int} (hD : zDi R m M) {a h : Int} (hO : zOb 75 a 8) (hk : 0 ≤ M a 0 ∧ M a 0 ≤ 5) (hn : 0 ≤ M a 1 ∧ M a 1 ≤ 9) (hp : 1 ≤ M a 2 ∧ M a 2 ≤ 60) (hb : 0 ≤ M a 3 ∧ M a 3 ≤ 59) (hh : 0 ≤ h ∧ h ≤ 127) : zK g yX1_isOf xX1_isOf [zr 21, zr a, zi h] 75 M (zPp (zi (zb (∀ d : Int, 0 ≤ d → d ≤ M 21 3 → (M 23 d = 1 ↔ zcm (M a 0) (M a 1) (M a 2) (M a 3) h d)))) 75 M) := by
  refine zK_of (ls0 := [zr 21, zr a, zi h, (3, 0)]) (by decide) rfl (by decide) rfl (Nat.le_of_ble_eq_true rfl) ?_
  obtain ⟨hm, ho, hr, e1, e2, e3, ht⟩ := id hD
  have hl := (ho (m - 1) (by omega) (by omega)).1
  have h00 := (ho 0 (by omega) (by omega)).1
  refine zV_iconst (pc := 0) dX1_isOf_0 ?_
  refine zV_istore_n (pc := 1) (i := 3) dX1_isOf_1 rfl rfl ?_
  try dsimp only [List.set_cons_succ, List.set_cons_zero]
  exact kX1_ioL hS hD hO hk hn hp hb hh (M 21 3 + 1).toNat 0 (by omega) (by omega) (fun d d0 d1 => absurd d0 (by omega))
/-- the first of R, i .. i + k - 1, that is in no round of (b, p); -1 without one -/
noncomputable def zfo (R : Int → Int) (b p : Int) : Int → Nat → Int
  | _, 0 => -1
  | i, k + 1 => zif (zbh (R i) b p) (zfo R b p (i + 1) k) (R i)
set_option maxRecDepth 20000 in
set_option maxHeartbeats 2000000 in
theorem kX1_foL (hS : zSt M) {R : Int → Int} {m : Int} (hD : zDi R m M) {p : Int} (hp : 0 ≤ p ∧ p ≤ 60) : ∀ (k : Nat) (i : Int), i + k = m → 0 ≤ i → zfo R (R 0) p i k = zfo R (R 0) p 0 m.toNat → zV g xX1_firstOutside (zPp (zi (zfo R (R 0) p 0 m.toNat)) 75 M) 2 [zr 21, zi p, zi i] [] 75 M 0 0 := by
  intro k
  induction k with
  | zero =>
    intro i h0 h1 h2
    obtain ⟨hm, ho, hr, e1, e2, e3, ht⟩ := id hD
    have hl := (ho (m - 1) (by omega) (by omega)).1
    have h00 := (ho 0 (by omega) (by omega)).1
    refine zV_iload_n (pc := 2) (i := 2) dX1_firstOutside_2 rfl rfl ?_
    refine zV_aload_n (pc := 3) (i := 0) dX1_firstOutside_3 rfl rfl ?_
    refine zV_get (pc := 4) (j := 1) dX1_firstOutside_4 flX1_41 (zOb_of rfl) rfl e1 ?_
    refine zV_icmp_ge (pc := 7) (tgt := 40) dX1_firstOutside_7 (by decide) (by omega) (fun c_7 => ?_) (fun c_7 => absurd (by omega) c_7)
    refine zV_iconst (pc := 40) dX1_firstOutside_40 ?_
    refine zV_iret (pc := 41) dX1_firstOutside_41 trivial ⟨Nat.zero_le _, Nat.zero_le _⟩ ?_
    exact zPe (by rw [← h2]; rfl)
  | succ k ih =>
    intro i h0 h1 h2
    obtain ⟨hm, ho, hr, e1, e2, e3, ht⟩ := id hD
    have hl := (ho (m - 1) (by omega) (by omega)).1
    have h00 := (ho 0 (by omega) (by omega)).1
    refine zV_iload_n (pc := 2) (i := 2) dX1_firstOutside_2 rfl rfl ?_
    refine zV_aload_n (pc := 3) (i := 0) dX1_firstOutside_3 rfl rfl ?_
    refine zV_get (pc := 4) (j := 1) dX1_firstOutside_4 flX1_41 (zOb_of rfl) rfl e1 ?_
    refine zV_icmp_ge (pc := 7) (tgt := 40) dX1_firstOutside_7 (by decide) (by omega) (fun c_7 => absurd c_7 (by omega)) (fun c_7 => ?_)
    refine zV_aload_n (pc := 10) (i := 0) dX1_firstOutside_10 rfl rfl ?_
    refine zV_get (pc := 11) (j := 0) dX1_firstOutside_11 flX1_9 (zOb_of rfl) rfl hS.e21_0 ?_
    refine zV_iload_n (pc := 14) (i := 2) dX1_firstOutside_14 rfl rfl ?_
    refine zV_iald (pc := 15) dX1_firstOutside_15 (zAr_of rfl : zAr 75 22 0 20) (by omega) (hr _ (by omega) (by omega)) ?_
    refine zV_aload_n (pc := 16) (i := 0) dX1_firstOutside_16 rfl rfl ?_
    refine zV_get (pc := 17) (j := 2) dX1_firstOutside_17 flX1_38 (zOb_of rfl) rfl e2 ?_
    refine zV_iload_n (pc := 20) (i := 1) dX1_firstOutside_20 rfl rfl ?_
    refine zV_isp (pc := 21) dX1_firstOutside_21 klX1_67 mX1_isBehind rfl ⟨Nat.zero_le _, Nat.zero_le _⟩ (kX1_isBehind (ho i h1 (by omega)).1 h00 hp) rfl rfl (Nat.le_of_ble_eq_true rfl) ?_
    refine zV_if_neb (pc := 24) (tgt := 34) dX1_firstOutside_24 (by decide) (fun c_24 => ?_) (fun c_24 => ?_)
    · refine zV_iinc (pc := 34) dX1_firstOutside_34 rfl rfl ?_
      try dsimp only [List.set_cons_succ, List.set_cons_zero]
      refine zV_goto (pc := 37) (tgt := 2) dX1_firstOutside_37 (by decide) ?_
      exact ih (i + 1) (by omega) (by omega) ((zif_t c_24).symm.trans h2)
    · refine zV_aload_n (pc := 27) (i := 0) dX1_firstOutside_27 rfl rfl ?_
      refine zV_get (pc := 28) (j := 0) dX1_firstOutside_28 flX1_9 (zOb_of rfl) rfl hS.e21_0 ?_
      refine zV_iload_n (pc := 31) (i := 2) dX1_firstOutside_31 rfl rfl ?_
      refine zV_iald (pc := 32) dX1_firstOutside_32 (zAr_of rfl : zAr 75 22 0 20) (by omega) (hr _ (by omega) (by omega)) ?_
      refine zV_iret (pc := 33) dX1_firstOutside_33 trivial ⟨Nat.zero_le _, Nat.zero_le _⟩ ?_
      exact zPe (by rw [← h2]; exact (zif_f c_24).symm)
set_option maxRecDepth 20000 in
set_option maxHeartbeats 2000000 in
theorem kX1_firstOutside (hS : zSt M) {R : Int → Int} {m : Int} (hD : zDi R m M) {p : Int} (hp : 0 ≤ p ∧ p ≤ 60) : zK g yX1_firstOutside xX1_firstOutside [zr 21, zi p] 75 M (zPp (zi (zfo R (R 0) p 0 m.toNat)) 75 M) := by
  refine zK_of (ls0 := [zr 21, zi p, (3, 0)]) (by decide) rfl (by decide) rfl (Nat.le_of_ble_eq_true rfl) ?_
  obtain ⟨hm, ho, hr, e1, e2, e3, ht⟩ := id hD
  have hl := (ho (m - 1) (by omega) (by omega)).1
  have h00 := (ho 0 (by omega) (by omega)).1
  refine zV_iconst (pc := 0) dX1_firstOutside_0 ?_
  refine zV_istore_n (pc := 1) (i := 2) dX1_firstOutside_1 rfl rfl ?_
  try dsimp only [List.set_cons_succ, List.set_cons_zero]
  exact kX1_foL hS hD hp m.toNat 0 (by omega) (by omega) rfl
set_option maxRecDepth 20000 in
set_option maxHeartbeats 2000000 in
theorem kX1_aaL (hS : zSt M) {R : Int → Int} {m : Int} (hD : zDi R m M) {p b q : Int} (hp : 0 ≤ p ∧ p ≤ 60) (hb : 0 ≤ b ∧ b < 400) (hq : 0 ≤ q ∧ q ≤ 60) : ∀ (k : Nat) (i : Int), i + k = m → 0 ≤ i → (∀ j : Int, 0 ≤ j → j < i → (zbh (R j) (R 0) p ∨ zbh (R j) b q)) → zV g xX1_areAll (zPp (zi (zb (∀ j : Int, 0 ≤ j → j < m → (zbh (R j) (R 0) p ∨ zbh (R j) b q)))) 75 M) 3 [zr 21, zi p, zi b, zi q, zi i] [] 75 M 0 0 := by
  intro k
  induction k with
  | zero =>
    intro i h0 h1 h2
    obtain ⟨hm, ho, hr, e1, e2, e3, ht⟩ := id hD
    have hl := (ho (m - 1) (by omega) (by omega)).1
    have h00 := (ho 0 (by omega) (by omega)).1
    refine zV_iload (pc := 3) dX1_areAll_3 rfl ?_
    refine zV_aload_n (pc := 5) (i := 0) dX1_areAll_5 rfl rfl ?_
    refine zV_get (pc := 6) (j := 1) dX1_areAll_6 flX1_41 (zOb_of rfl) rfl e1 ?_
    refine zV_icmp_ge (pc := 9) (tgt := 53) dX1_areAll_9 (by decide) (by omega) (fun c_9 => ?_) (fun c_9 => absurd (by omega) c_9)
    refine zV_iconst (pc := 53) dX1_areAll_53 ?_
    refine zV_iret (pc := 54) dX1_areAll_54 (by first | exact zok_b1 | exact zok_b0 | exact zok_b) ⟨Nat.zero_le _, Nat.zero_le _⟩ ?_
    exact zPt (fun j j0 j1 => h2 j j0 (by omega))
  | succ k ih =>
    intro i h0 h1 h2
    obtain ⟨hm, ho, hr, e1, e2, e3, ht⟩ := id hD
    have hl := (ho (m - 1) (by omega) (by omega)).1
    have h00 := (ho 0 (by omega) (by omega)).1
    refine zV_iload (pc := 3) dX1_areAll_3 rfl ?_
    refine zV_aload_n (pc := 5) (i := 0) dX1_areAll_5 rfl rfl ?_
    refine zV_get (pc := 6) (j := 1) dX1_areAll_6 flX1_41 (zOb_of rfl) rfl e1 ?_
    refine zV_icmp_ge (pc := 9) (tgt := 53) dX1_areAll_9 (by decide) (by omega) (fun c_9 => absurd c_9 (by omega)) (fun c_9 => ?_)
    refine zV_aload_n (pc := 12) (i := 0) dX1_areAll_12 rfl rfl ?_
    refine zV_get (pc := 13) (j := 0) dX1_areAll_13 flX1_9 (zOb_of rfl) rfl hS.e21_0 ?_
    refine zV_iload (pc := 16) dX1_areAll_16 rfl ?_
    refine zV_iald (pc := 18) dX1_areAll_18 (zAr_of rfl : zAr 75 22 0 20) (by omega) (hr _ (by omega) (by omega)) ?_
    refine zV_aload_n (pc := 19) (i := 0) dX1_areAll_19 rfl rfl ?_
    refine zV_get (pc := 20) (j := 2) dX1_areAll_20 flX1_38 (zOb_of rfl) rfl e2 ?_
    refine zV_iload_n (pc := 23) (i := 1) dX1_areAll_23 rfl rfl ?_
    refine zV_isp (pc := 24) dX1_areAll_24 klX1_67 mX1_isBehind rfl ⟨Nat.zero_le _, Nat.zero_le _⟩ (kX1_isBehind (ho i h1 (by omega)).1 h00 hp) rfl rfl (Nat.le_of_ble_eq_true rfl) ?_
    refine zV_if_neb (pc := 27) (tgt := 47) dX1_areAll_27 (by decide) (fun c_27 => ?_) (fun c_27 => ?_)
    · refine zV_iinc (pc := 47) dX1_areAll_47 rfl rfl ?_
      try dsimp only [List.set_cons_succ, List.set_cons_zero]
      refine zV_goto (pc := 50) (tgt := 3) dX1_areAll_50 (by decide) ?_
      refine ih (i + 1) (by omega) (by omega) (fun j j0 j1 => ?_)
      by_cases ej : j = i
      · subst ej
        first
        | exact Or.inl c_27
        | exact Or.inr c_42
      · exact h2 j j0 (by omega)
    · refine zV_aload_n (pc := 30) (i := 0) dX1_areAll_30 rfl rfl ?_
      refine zV_get (pc := 31) (j := 0) dX1_areAll_31 flX1_9 (zOb_of rfl) rfl hS.e21_0 ?_
      refine zV_iload (pc := 34) dX1_areAll_34 rfl ?_
      refine zV_iald (pc := 36) dX1_areAll_36 (zAr_of rfl : zAr 75 22 0 20) (by omega) (hr _ (by omega) (by omega)) ?_
      refine zV_iload_n (pc := 37) (i := 2) dX1_areAll_37 rfl rfl ?_
      refine zV_iload_n (pc := 38) (i := 3) dX1_areAll_38 rfl rfl ?_
      refine zV_isp (pc := 39) dX1_areAll_39 klX1_67 mX1_isBehind rfl ⟨Nat.zero_le _, Nat.zero_le _⟩ (kX1_isBehind (ho i h1 (by omega)).1 hb hq) rfl rfl (Nat.le_of_ble_eq_true rfl) ?_
      refine zV_if_neb (pc := 42) (tgt := 47) dX1_areAll_42 (by decide) (fun c_42 => ?_) (fun c_42 => ?_)
      · refine zV_iinc (pc := 47) dX1_areAll_47 rfl rfl ?_
        try dsimp only [List.set_cons_succ, List.set_cons_zero]
        refine zV_goto (pc := 50) (tgt := 3) dX1_areAll_50 (by decide) ?_
        refine ih (i + 1) (by omega) (by omega) (fun j j0 j1 => ?_)
        by_cases ej : j = i
        · subst ej
          first
          | exact Or.inl c_27
          | exact Or.inr c_42
        · exact h2 j j0 (by omega)
      · refine zV_iconst (pc := 45) dX1_areAll_45 ?_
        refine zV_iret (pc := 46) dX1_areAll_46 (by first | exact zok_b1 | exact zok_b0 | exact zok_b) ⟨Nat.zero_le _, Nat.zero_le _⟩ ?_
        exact zPf (fun y => (y i h1 (by omega)).elim c_27 c_42)
set_option maxRecDepth 20000 in
set_option maxHeartbeats 2000000 in
theorem kX1_areAll (hS : zSt M) {R : Int → Int} {m : Int} (hD : zDi R m M) {p b q : Int} (hp : 0 ≤ p ∧ p ≤ 60) (hb : 0 ≤ b ∧ b < 400) (hq : 0 ≤ q ∧ q ≤ 60) : zK g yX1_areAll xX1_areAll [zr 21, zi p, zi b, zi q] 75 M (zPp (zi (zb (∀ j : Int, 0 ≤ j → j < m → (zbh (R j) (R 0) p ∨ zbh (R j) b q)))) 75 M) := by
  refine zK_of (ls0 := [zr 21, zi p, zi b, zi q, (3, 0)]) (by decide) rfl (by decide) rfl (Nat.le_of_ble_eq_true rfl) ?_
  obtain ⟨hm, ho, hr, e1, e2, e3, ht⟩ := id hD
  have hl := (ho (m - 1) (by omega) (by omega)).1
  have h00 := (ho 0 (by omega) (by omega)).1
  refine zV_iconst (pc := 0) dX1_areAll_0 ?_
  refine zV_istore (pc := 1) dX1_areAll_1 rfl ?_
  try dsimp only [List.set_cons_succ, List.set_cons_zero]
  exact kX1_aaL hS hD hp hb hq m.toNat 0 (by omega) (by omega) (fun j j0 j1 => absurd j0 (by omega))
end
