/-! DIARIES: read (printed by wip/whole/p34.py) -/
/-- what a diary's reading reaches -/
def zDf (a j : Int) : Prop := a = 22 ∨ a = 23 ∨ (a = 21 ∧ 1 ≤ j ∧ j ≤ 3)
theorem zDf_c {a j : Int} (h : zDf a j) : zSc a j := by
  unfold zDf at h
  unfold zSc
  omega
/-- the first i of R are days, each behind the one before -/
def zdo (R : Int → Int) (i : Int) : Prop := ∀ j : Int, 0 ≤ j → j < i → (0 ≤ R j ∧ R j < 400) ∧ (0 < j → R (j - 1) < R j)
/-- the row of marks tells the first i of R -/
def zdt (R : Int → Int) (i : Int) (f : Int → Int) : Prop := ∀ d : Int, 0 ≤ d → d < 400 → (f d = 0 ∨ f d = 1) ∧ (f d = 1 ↔ ∃ j : Int, (0 ≤ j ∧ j < i) ∧ R j = d)
/-- a diary of m days R stands read -/
def zDi (R : Int → Int) (m : Int) (M : zM) : Prop := (1 ≤ m ∧ m ≤ 20) ∧ zdo R m ∧ (∀ j : Int, 0 ≤ j → j < m → M 22 j = R j) ∧ M 21 1 = m ∧ M 21 2 = R 0 ∧ M 21 3 = R (m - 1) ∧ zdt R m (M 23)
section
variable {g : zG} {N : Nat} {M : zM}
set_option maxRecDepth 20000 in
set_option maxHeartbeats 2000000 in
theorem kX1_isBehind {d b p : Int} (hd : 0 ≤ d ∧ d < 400) (hb : 0 ≤ b ∧ b < 400) (hp : 0 ≤ p ∧ p ≤ 60) : zK g yX1_isBehind xX1_isBehind [zi d, zi b, zi p] N M (zPp (zi (zb (b ≤ d ∧ 0 < p ∧ (d - b) % p = 0))) N M) := by
  refine zK_of (ls0 := [zi d, zi b, zi p]) (by decide) rfl (by decide) rfl (Nat.le_of_ble_eq_true rfl) ?_
  refine zV_iload_n (pc := 0) (i := 0) dX1_isBehind_0 rfl rfl ?_
  refine zV_iload_n (pc := 1) (i := 1) dX1_isBehind_1 rfl rfl ?_
  refine zV_icmp_lt (pc := 2) (tgt := 21) dX1_isBehind_2 (by decide) (by omega) (fun c_2 => ?_) (fun c_2 => ?_)
  · refine zV_iconst (pc := 21) dX1_isBehind_21 ?_
    refine zV_iret (pc := 22) dX1_isBehind_22 (by first | exact zok_b1 | exact zok_b0 | exact zok_b) ⟨Nat.zero_le _, Nat.zero_le _⟩ ?_
    first
      | (exfalso; omega)
      | exact zPt (by omega)
      | exact zPf (by omega)
  · refine zV_iload_n (pc := 5) (i := 2) dX1_isBehind_5 rfl rfl ?_
    refine zV_if_le (pc := 6) (tgt := 21) dX1_isBehind_6 (by decide) (by omega) (fun c_6 => ?_) (fun c_6 => ?_)
    · refine zV_iconst (pc := 21) dX1_isBehind_21 ?_
      refine zV_iret (pc := 22) dX1_isBehind_22 (by first | exact zok_b1 | exact zok_b0 | exact zok_b) ⟨Nat.zero_le _, Nat.zero_le _⟩ ?_
      first
        | (exfalso; omega)
        | exact zPt (by omega)
        | exact zPf (by omega)
    · refine zV_iload_n (pc := 9) (i := 0) dX1_isBehind_9 rfl rfl ?_
      refine zV_iload_n (pc := 10) (i := 1) dX1_isBehind_10 rfl rfl ?_
      refine zV_isub (pc := 11) dX1_isBehind_11 ?_
      refine zV_iload_n (pc := 12) (i := 2) dX1_isBehind_12 rfl rfl ?_
      refine zV_iremN (pc := 13) dX1_isBehind_13 (by omega) (by omega) ?_
      have hr0 := Int.emod_nonneg (d - b) (b := p) (by omega)
      have hr1 := Int.emod_lt_of_pos (d - b) (b := p) (by omega)
      refine zV_if_ne (pc := 14) (tgt := 21) dX1_isBehind_14 (by decide) (by omega) (fun c_14 => ?_) (fun c_14 => ?_)
      · refine zV_iconst (pc := 21) dX1_isBehind_21 ?_
        refine zV_iret (pc := 22) dX1_isBehind_22 (by first | exact zok_b1 | exact zok_b0 | exact zok_b) ⟨Nat.zero_le _, Nat.zero_le _⟩ ?_
        first
          | (exfalso; omega)
          | exact zPt (by omega)
          | exact zPf (by omega)
      · refine zV_iconst (pc := 17) dX1_isBehind_17 ?_
        refine zV_goto (pc := 18) (tgt := 22) dX1_isBehind_18 (by decide) ?_
        refine zV_iret (pc := 22) dX1_isBehind_22 (by first | exact zok_b1 | exact zok_b0 | exact zok_b) ⟨Nat.zero_le _, Nat.zero_le _⟩ ?_
        first
          | (exfalso; omega)
          | exact zPt (by omega)
          | exact zPf (by omega)
set_option maxRecDepth 20000 in
set_option maxHeartbeats 2000000 in
theorem kX1_clL (hS : zSt M) : ∀ (k : Nat) (i : Int) (M1 : zM), i + k = 400 → 0 ≤ i → (∀ d : Int, 0 ≤ d → d < i → M1 23 d = 0) → zFr (fun a _ => a = 23) M M1 → zV g xX1_clear (zPn 75 (fun M1 => (∀ d : Int, 0 ≤ d → d < 400 → M1 23 d = 0) ∧ zFr (fun a _ => a = 23) M M1)) 2 [zr 21, zi i] [] 75 M1 0 0 := by
  intro k
  induction k with
  | zero =>
    intro i M1 h0 h1 h2 h3
    have eI : M1 21 4 = 23 := (h3 _ _ (by omega)).trans hS.e21_4
    refine zV_iload_n (pc := 2) (i := 1) dX1_clear_2 rfl rfl ?_
    refine zV_sipush (pc := 3) dX1_clear_3 (by decide) ?_
    refine zV_icmp_ge (pc := 6) (tgt := 22) dX1_clear_6 (by decide) (by omega) (fun c_6 => ?_) (fun c_6 => absurd (by omega) c_6)
    refine zV_vret (pc := 22) dX1_clear_22 trivial ⟨Nat.zero_le _, Nat.zero_le _⟩ ?_
    exact ⟨rfl, rfl, fun d d0 d1 => h2 d d0 (by omega), h3⟩
  | succ k ih =>
    intro i M1 h0 h1 h2 h3
    have eI : M1 21 4 = 23 := (h3 _ _ (by omega)).trans hS.e21_4
    refine zV_iload_n (pc := 2) (i := 1) dX1_clear_2 rfl rfl ?_
    refine zV_sipush (pc := 3) dX1_clear_3 (by decide) ?_
    refine zV_icmp_ge (pc := 6) (tgt := 22) dX1_clear_6 (by decide) (by omega) (fun c_6 => absurd c_6 (by omega)) (fun c_6 => ?_)
    refine zV_aload_n (pc := 9) (i := 0) dX1_clear_9 rfl rfl ?_
    refine zV_get (pc := 10) (j := 4) dX1_clear_10 flX1_15 (zOb_of rfl) rfl eI ?_
    refine zV_iload_n (pc := 13) (i := 1) dX1_clear_13 rfl rfl ?_
    refine zV_iconst (pc := 14) dX1_clear_14 ?_
    refine zV_zast (pc := 15) dX1_clear_15 (zAr_of rfl : zAr 75 23 1 400) (by omega) (by omega) ?_
    refine zV_iinc (pc := 16) dX1_clear_16 rfl rfl ?_
    try dsimp only [List.set_cons_succ, List.set_cons_zero]
    refine zV_goto (pc := 19) (tgt := 2) dX1_clear_19 (by decide) ?_
    exact ih (i + 1) _ (by omega) (by omega) (zU_to (F := fun _ => 0) h2 rfl) (zFr.up h3 rfl)
set_option maxRecDepth 20000 in
set_option maxHeartbeats 2000000 in
theorem kX1_clear (hS : zSt M) : zK g yX1_clear xX1_clear [zr 21] 75 M (zPn 75 (fun M1 => (∀ d : Int, 0 ≤ d → d < 400 → M1 23 d = 0) ∧ zFr (fun a _ => a = 23) M M1)) := by
  refine zK_of (ls0 := [zr 21, (3, 0)]) (by decide) rfl (by decide) rfl (Nat.le_of_ble_eq_true rfl) ?_
  refine zV_iconst (pc := 0) dX1_clear_0 ?_
  refine zV_istore_n (pc := 1) (i := 1) dX1_clear_1 rfl rfl ?_
  try dsimp only [List.set_cons_succ, List.set_cons_zero]
  exact kX1_clL hS 400 0 M (by omega) (by omega) (fun d d0 d1 => absurd d0 (by omega)) zFr.rf
set_option maxRecDepth 20000 in
set_option maxHeartbeats 2000000 in
theorem kX1_rdL (hS : zSt M) {s : Int} (hs : 0 ≤ s ∧ s < 4) (hH : ∀ i : Int, 0 ≤ i → i < 40 → -2147483648 ≤ M (45 + 2 * s) i ∧ M (45 + 2 * s) i ≤ 2147483647) (hm : 1 ≤ (M (44 + 2 * s) 1) ∧ (M (44 + 2 * s) 1) ≤ 20) : ∀ (k : Nat) (i : Int) (M1 : zM) (w3 : zv), i + k = (M (44 + 2 * s) 1) → 0 ≤ i → zdo (M (45 + 2 * s)) i → (∀ j : Int, 0 ≤ j → j < i → M1 22 j = (M (45 + 2 * s)) j) → (0 < i → M1 21 3 = (M (45 + 2 * s)) (i - 1)) → zdt (M (45 + 2 * s)) i (M1 23) → zFr zDf M M1 → zV g xX1_read (fun w N' M1 => N' = 75 ∧ zFr zDf M M1 ∧ ((w = some (zi 0) ∧ ¬ ((1 ≤ (M (44 + 2 * s) 1) ∧ (M (44 + 2 * s) 1) ≤ 20) ∧ zdo (M (45 + 2 * s)) (M (44 + 2 * s) 1))) ∨ (w = some (zi 1) ∧ zDi (M (45 + 2 * s)) (M (44 + 2 * s) 1) M1))) 28 [zr 21, zr (44 + 2 * s), zi i, w3] [] 75 M1 0 0 := by
  intro k
  induction k with
  | zero =>
    intro i M1 w3 h0 h1 h2 h3 h4 h5 h6
    have hS1 : zSt M1 := hS.fr h6 (fun q hq e => zSc_st q hq (zDf_c e))
    have eM : M1 (44 + 2 * s) 1 = M (44 + 2 * s) 1 := h6 _ _ (by unfold zDf; omega)
    have eR : ∀ j, M1 (45 + 2 * s) j = M (45 + 2 * s) j := fun j => h6 _ _ (by unfold zDf; omega)
    have el : 0 < i → (0 ≤ M (45 + 2 * s) (i - 1) ∧ M (45 + 2 * s) (i - 1) < 400) := fun hi => (h2 (i - 1) (by omega) (by omega)).1
    refine zV_iload_n (pc := 28) (i := 2) dX1_read_28 rfl rfl ?_
    refine zV_aload_n (pc := 29) (i := 1) dX1_read_29 rfl rfl ?_
    refine zV_get (pc := 30) (j := 1) dX1_read_30 flX1_19 (zOb_sh hs) rfl eM ?_
    refine zV_icmp_ge (pc := 33) (tgt := 89) dX1_read_33 (by decide) (by omega) (fun c_33 => ?_) (fun c_33 => absurd (by omega) c_33)
    refine zV_aload_n (pc := 89) (i := 0) dX1_read_89 rfl rfl ?_
    refine zV_aload_n (pc := 90) (i := 0) dX1_read_90 rfl rfl ?_
    refine zV_get (pc := 91) (j := 0) dX1_read_91 flX1_9 (zOb_of rfl) rfl hS1.e21_0 ?_
    refine zV_iconst (pc := 94) dX1_read_94 ?_
    refine zV_iald (pc := 95) dX1_read_95 (zAr_of rfl : zAr 75 22 0 20) (by omega) (h3 0 (by omega) (by omega)) ?_
    refine zV_put (pc := 96) (j := 2) dX1_read_96 flX1_38 rfl (zOb_of rfl) rfl trivial ?_
    refine zV_aload_n (pc := 99) (i := 0) dX1_read_99 rfl rfl ?_
    refine zV_aload_n (pc := 100) (i := 1) dX1_read_100 rfl rfl ?_
    refine zV_get (pc := 101) (j := 1) dX1_read_101 flX1_19 (zOb_sh hs) rfl ((zU_a _ _ _ _ (by omega)).trans eM) ?_
    refine zV_put (pc := 104) (j := 1) dX1_read_104 flX1_41 rfl (zOb_of rfl) rfl trivial ?_
    refine zV_iconst (pc := 107) dX1_read_107 ?_
    refine zV_iret (pc := 108) dX1_read_108 (by first | exact zok_b1 | exact zok_b0 | exact zok_b) ⟨Nat.zero_le _, Nat.zero_le _⟩ ?_
    have ei : i = M (44 + 2 * s) 1 := by omega
    subst ei
    refine ⟨rfl, zFr.up (zFr.up h6 (Or.inr (Or.inr ⟨rfl, by decide, by decide⟩))) (Or.inr (Or.inr ⟨rfl, by decide, by decide⟩)), Or.inr ⟨rfl, hm, h2, ?_, zU_s _ _ _ _, (zU_j _ _ _ _ (by decide)).trans (zU_s _ _ _ _), (zU_j _ _ _ _ (by decide)).trans ((zU_j _ _ _ _ (by decide)).trans (h4 (by omega))), ?_⟩⟩
    · exact fun j j0 j1 => (zU_a _ _ _ _ (by decide)).trans ((zU_a _ _ _ _ (by decide)).trans (h3 j j0 j1))
    · rw [zU_ar (by decide), zU_ar (by decide)]
      exact h5
  | succ k ih =>
    intro i M1 w3 h0 h1 h2 h3 h4 h5 h6
    have hS1 : zSt M1 := hS.fr h6 (fun q hq e => zSc_st q hq (zDf_c e))
    have eM : M1 (44 + 2 * s) 1 = M (44 + 2 * s) 1 := h6 _ _ (by unfold zDf; omega)
    have eR : ∀ j, M1 (45 + 2 * s) j = M (45 + 2 * s) j := fun j => h6 _ _ (by unfold zDf; omega)
    have el : 0 < i → (0 ≤ M (45 + 2 * s) (i - 1) ∧ M (45 + 2 * s) (i - 1) < 400) := fun hi => (h2 (i - 1) (by omega) (by omega)).1
    refine zV_iload_n (pc := 28) (i := 2) dX1_read_28 rfl rfl ?_
    refine zV_aload_n (pc := 29) (i := 1) dX1_read_29 rfl rfl ?_
    refine zV_get (pc := 30) (j := 1) dX1_read_30 flX1_19 (zOb_sh hs) rfl eM ?_
    refine zV_icmp_ge (pc := 33) (tgt := 89) dX1_read_33 (by decide) (by omega) (fun c_33 => absurd c_33 (by omega)) (fun c_33 => ?_)
    refine zV_aload_n (pc := 36) (i := 1) dX1_read_36 rfl rfl ?_
    refine zV_get (pc := 37) (j := 2) dX1_read_37 flX1_28 (zOb_sh hs) rfl (hS1.shi hs) ?_
    refine zV_iload_n (pc := 40) (i := 2) dX1_read_40 rfl rfl ?_
    have hri := hH i h1 (by omega)
    refine zV_iald (pc := 41) dX1_read_41 (zAr_sh hs) (by omega) (eR _) ?_
    refine zV_istore_n (pc := 42) (i := 3) dX1_read_42 rfl rfl ?_
    try dsimp only [List.set_cons_succ, List.set_cons_zero]
    refine zV_iload_n (pc := 43) (i := 3) dX1_read_43 rfl rfl ?_
    refine zV_isNp (pc := 44) dX1_read_44 klX1_31 mX9_isDay rfl ⟨Nat.zero_le _, Nat.zero_le _⟩ (kX9_isDay (hH i h1 (by omega))) rfl rfl (Nat.le_of_ble_eq_true rfl) ?_
    refine zV_if_eqb (pc := 47) (tgt := 62) dX1_read_47 (by decide) (fun c_47 => ?_) (fun c_47 => ?_)
    · refine zV_iconst (pc := 62) dX1_read_62 ?_
      refine zV_iret (pc := 63) dX1_read_63 (by first | exact zok_b1 | exact zok_b0 | exact zok_b) ⟨Nat.zero_le _, Nat.zero_le _⟩ ?_
      refine ⟨rfl, h6, Or.inl ⟨rfl, fun q => ?_⟩⟩
      have q1 := q.2 i h1 (by omega)
      omega
    · refine zV_iload_n (pc := 50) (i := 2) dX1_read_50 rfl rfl ?_
      refine zV_if_le (pc := 51) (tgt := 64) dX1_read_51 (by decide) (by omega) (fun c_51 => ?_) (fun c_51 => ?_)
      · refine zV_aload_n (pc := 64) (i := 0) dX1_read_64 rfl rfl ?_
        refine zV_get (pc := 65) (j := 0) dX1_read_65 flX1_9 (zOb_of rfl) rfl hS1.e21_0 ?_
        refine zV_iload_n (pc := 68) (i := 2) dX1_read_68 rfl rfl ?_
        refine zV_iload_n (pc := 69) (i := 3) dX1_read_69 rfl rfl ?_
        refine zV_iast (pc := 70) dX1_read_70 (zAr_of rfl : zAr 75 22 0 20) (by omega) ?_
        refine zV_aload_n (pc := 71) (i := 0) dX1_read_71 rfl rfl ?_
        refine zV_get (pc := 72) (j := 4) dX1_read_72 flX1_15 (zOb_of rfl) rfl ((zU_a _ _ _ _ (by decide)).trans hS1.e21_4) ?_
        refine zV_iload_n (pc := 75) (i := 3) dX1_read_75 rfl rfl ?_
        refine zV_iconst (pc := 76) dX1_read_76 ?_
        refine zV_zast (pc := 77) dX1_read_77 (zAr_of rfl : zAr 75 23 1 400) (by omega) (by omega) ?_
        refine zV_aload_n (pc := 78) (i := 0) dX1_read_78 rfl rfl ?_
        refine zV_iload_n (pc := 79) (i := 3) dX1_read_79 rfl rfl ?_
        refine zV_put (pc := 80) (j := 3) dX1_read_80 flX1_35 rfl (zOb_of rfl) rfl trivial ?_
        refine zV_iinc (pc := 83) dX1_read_83 rfl rfl ?_
        try dsimp only [List.set_cons_succ, List.set_cons_zero]
        refine zV_goto (pc := 86) (tgt := 28) dX1_read_86 (by decide) ?_
        have hv : 0 ≤ M (45 + 2 * s) i ∧ M (45 + 2 * s) i < 400 := by omega
        have hb : 0 < i → M (45 + 2 * s) (i - 1) < M (45 + 2 * s) i := by intro h; have := h4 h; omega
        refine ih (i + 1) _ _ (by omega) (by omega) ?_ ?_ ?_ ?_ ?_
        · intro j j0 j1
          by_cases ej : j = i
          · subst ej
            exact ⟨hv, hb⟩
          · exact h2 j j0 (by omega)
        · intro j j0 j1
          refine (zU_a _ _ _ _ (by decide)).trans ((zU_a _ _ _ _ (by decide)).trans ?_)
          exact zU_to (F := M (45 + 2 * s)) h3 rfl j j0 j1
        · intro _
          rw [show i + 1 - 1 = i by omega]
          exact zU_s _ _ _ _
        · intro d d0 d1
          rw [zU_ar (by decide)]
          have hd := h5 d d0 d1
          by_cases ed : d = M (45 + 2 * s) i
          · subst ed
            rw [zU_s]
            exact ⟨Or.inr rfl, fun _ => ⟨i, by omega, rfl⟩, fun _ => rfl⟩
          · rw [zU_j _ _ _ _ ed, zU_ar (by decide)]
            refine ⟨hd.1, fun q => ?_, fun q => ?_⟩
            · obtain ⟨j, j0, j1⟩ := hd.2.mp q
              exact ⟨j, by omega, j1⟩
            · obtain ⟨j, j0, j1⟩ := q
              refine hd.2.mpr ⟨j, ⟨j0.1, ?_⟩, j1⟩
              by_cases ej : j = i
              · subst ej
                exact absurd j1.symm ed
              · omega
        · exact zFr.up (zFr.up (zFr.up h6 (Or.inl rfl)) (Or.inr (Or.inl rfl))) (Or.inr (Or.inr ⟨rfl, by decide, by decide⟩))
      · refine zV_iload_n (pc := 54) (i := 3) dX1_read_54 rfl rfl ?_
        refine zV_aload_n (pc := 55) (i := 0) dX1_read_55 rfl rfl ?_
        have h4i := h4 (by omega)
        have eli := el (by omega)
        refine zV_get (pc := 56) (j := 3) dX1_read_56 flX1_35 (zOb_of rfl) rfl rfl ?_
        refine zV_icmp_gt (pc := 59) (tgt := 64) dX1_read_59 (by decide) (by omega) (fun c_59 => ?_) (fun c_59 => ?_)
        · refine zV_aload_n (pc := 64) (i := 0) dX1_read_64 rfl rfl ?_
          refine zV_get (pc := 65) (j := 0) dX1_read_65 flX1_9 (zOb_of rfl) rfl hS1.e21_0 ?_
          refine zV_iload_n (pc := 68) (i := 2) dX1_read_68 rfl rfl ?_
          refine zV_iload_n (pc := 69) (i := 3) dX1_read_69 rfl rfl ?_
          refine zV_iast (pc := 70) dX1_read_70 (zAr_of rfl : zAr 75 22 0 20) (by omega) ?_
          refine zV_aload_n (pc := 71) (i := 0) dX1_read_71 rfl rfl ?_
          refine zV_get (pc := 72) (j := 4) dX1_read_72 flX1_15 (zOb_of rfl) rfl ((zU_a _ _ _ _ (by decide)).trans hS1.e21_4) ?_
          refine zV_iload_n (pc := 75) (i := 3) dX1_read_75 rfl rfl ?_
          refine zV_iconst (pc := 76) dX1_read_76 ?_
          refine zV_zast (pc := 77) dX1_read_77 (zAr_of rfl : zAr 75 23 1 400) (by omega) (by omega) ?_
          refine zV_aload_n (pc := 78) (i := 0) dX1_read_78 rfl rfl ?_
          refine zV_iload_n (pc := 79) (i := 3) dX1_read_79 rfl rfl ?_
          refine zV_put (pc := 80) (j := 3) dX1_read_80 flX1_35 rfl (zOb_of rfl) rfl trivial ?_
          refine zV_iinc (pc := 83) dX1_read_83 rfl rfl ?_
          try dsimp only [List.set_cons_succ, List.set_cons_zero]
          refine zV_goto (pc := 86) (tgt := 28) dX1_read_86 (by decide) ?_
          have hv : 0 ≤ M (45 + 2 * s) i ∧ M (45 + 2 * s) i < 400 := by omega
          have hb : 0 < i → M (45 + 2 * s) (i - 1) < M (45 + 2 * s) i := by intro h; have := h4 h; omega
          refine ih (i + 1) _ _ (by omega) (by omega) ?_ ?_ ?_ ?_ ?_
          · intro j j0 j1
            by_cases ej : j = i
            · subst ej
              exact ⟨hv, hb⟩
            · exact h2 j j0 (by omega)
          · intro j j0 j1
            refine (zU_a _ _ _ _ (by decide)).trans ((zU_a _ _ _ _ (by decide)).trans ?_)
            exact zU_to (F := M (45 + 2 * s)) h3 rfl j j0 j1
          · intro _
            rw [show i + 1 - 1 = i by omega]
            exact zU_s _ _ _ _
          · intro d d0 d1
            rw [zU_ar (by decide)]
            have hd := h5 d d0 d1
            by_cases ed : d = M (45 + 2 * s) i
            · subst ed
              rw [zU_s]
              exact ⟨Or.inr rfl, fun _ => ⟨i, by omega, rfl⟩, fun _ => rfl⟩
            · rw [zU_j _ _ _ _ ed, zU_ar (by decide)]
              refine ⟨hd.1, fun q => ?_, fun q => ?_⟩
              · obtain ⟨j, j0, j1⟩ := hd.2.mp q
                exact ⟨j, by omega, j1⟩
              · obtain ⟨j, j0, j1⟩ := q
                refine hd.2.mpr ⟨j, ⟨j0.1, ?_⟩, j1⟩
                by_cases ej : j = i
                · subst ej
                  exact absurd j1.symm ed
                · omega
          · exact zFr.up (zFr.up (zFr.up h6 (Or.inl rfl)) (Or.inr (Or.inl rfl))) (Or.inr (Or.inr ⟨rfl, by decide, by decide⟩))
        · refine zV_iconst (pc := 62) dX1_read_62 ?_
          refine zV_iret (pc := 63) dX1_read_63 (by first | exact zok_b1 | exact zok_b0 | exact zok_b) ⟨Nat.zero_le _, Nat.zero_le _⟩ ?_
          refine ⟨rfl, h6, Or.inl ⟨rfl, fun q => ?_⟩⟩
          have q1 := q.2 i h1 (by omega)
          omega
set_option maxRecDepth 20000 in
set_option maxHeartbeats 2000000 in
theorem kX1_read (hS : zSt M) {s : Int} (hs : 0 ≤ s ∧ s < 4) (hH : ∀ i : Int, 0 ≤ i → i < 40 → -2147483648 ≤ M (45 + 2 * s) i ∧ M (45 + 2 * s) i ≤ 2147483647) (hz : 0 ≤ (M (44 + 2 * s) 1) ∧ (M (44 + 2 * s) 1) ≤ 40) : zK g yX1_read xX1_read [zr 21, zr (44 + 2 * s)] 75 M (fun w N' M1 => N' = 75 ∧ zFr zDf M M1 ∧ ((w = some (zi 0) ∧ ¬ ((1 ≤ (M (44 + 2 * s) 1) ∧ (M (44 + 2 * s) 1) ≤ 20) ∧ zdo (M (45 + 2 * s)) (M (44 + 2 * s) 1))) ∨ (w = some (zi 1) ∧ zDi (M (45 + 2 * s)) (M (44 + 2 * s) 1) M1))) := by
  refine zK_of (ls0 := [zr 21, zr (44 + 2 * s), (3, 0), (3, 0)]) (by decide) rfl (by decide) rfl (Nat.le_of_ble_eq_true rfl) ?_
  refine zV_aload_n (pc := 0) (i := 1) dX1_read_0 rfl rfl ?_
  refine zV_get (pc := 1) (j := 1) dX1_read_1 flX1_19 (zOb_sh hs) rfl rfl ?_
  refine zV_iconst (pc := 4) dX1_read_4 ?_
  refine zV_icmp_lt (pc := 5) (tgt := 20) dX1_read_5 (by decide) (by omega) (fun c_5 => ?_) (fun c_5 => ?_)
  · refine zV_iconst (pc := 20) dX1_read_20 ?_
    refine zV_iret (pc := 21) dX1_read_21 (by first | exact zok_b1 | exact zok_b0 | exact zok_b) ⟨Nat.zero_le _, Nat.zero_le _⟩ ?_
    exact ⟨rfl, zFr.rf, Or.inl ⟨rfl, fun q => by omega⟩⟩
  · refine zV_aload_n (pc := 8) (i := 1) dX1_read_8 rfl rfl ?_
    refine zV_get (pc := 9) (j := 1) dX1_read_9 flX1_19 (zOb_sh hs) rfl rfl ?_
    refine zV_aload_n (pc := 12) (i := 0) dX1_read_12 rfl rfl ?_
    refine zV_get (pc := 13) (j := 0) dX1_read_13 flX1_9 (zOb_of rfl) rfl hS.e21_0 ?_
    refine zV_alen (pc := 16) dX1_read_16 (zAr_of rfl : zAr 75 22 0 20) ?_
    refine zV_icmp_le (pc := 17) (tgt := 22) dX1_read_17 (by decide) (by omega) (fun c_17 => ?_) (fun c_17 => ?_)
    · refine zV_aload_n (pc := 22) (i := 0) dX1_read_22 rfl rfl ?_
      refine zV_ivn (pc := 23) (ci := 1) dX1_read_23 klX1_25 mX1_clear ⟨by decide, rfl⟩ rfl ⟨Nat.zero_le _, Nat.zero_le _⟩ (kX1_clear hS) (zOb_of rfl) rfl rfl (Nat.le_of_ble_eq_true rfl) (fun M1 q => ?_)
      obtain ⟨q0, q1⟩ := q
      refine zV_iconst (pc := 26) dX1_read_26 ?_
      refine zV_istore_n (pc := 27) (i := 2) dX1_read_27 rfl rfl ?_
      try dsimp only [List.set_cons_succ, List.set_cons_zero]
      refine kX1_rdL hS hs hH (by omega) (M (44 + 2 * s) 1).toNat 0 M1 _ (by omega) (by omega) (fun j j0 j1 => absurd j0 (by omega)) (fun j j0 j1 => absurd j0 (by omega)) (fun h => absurd h (by decide)) (fun d d0 d1 => ⟨Or.inl (q0 d d0 d1), fun e => ?_, fun e => ?_⟩) (q1.mono (fun a j e => Or.inr (Or.inl e)))
      · rw [q0 d d0 d1] at e
        exact absurd e (by decide)
      · obtain ⟨j, j0, j1⟩ := e
        omega
    · refine zV_iconst (pc := 20) dX1_read_20 ?_
      refine zV_iret (pc := 21) dX1_read_21 (by first | exact zok_b1 | exact zok_b0 | exact zok_b) ⟨Nat.zero_le _, Nat.zero_le _⟩ ?_
      exact ⟨rfl, zFr.rf, Or.inl ⟨rfl, fun q => by omega⟩⟩
end
