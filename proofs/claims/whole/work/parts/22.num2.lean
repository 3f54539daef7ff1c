/-! THE CLASS: chance, full, sharesDayWith, why, join (printed by wip/whole/p22.py) -/
/-- how many of the first k seeds leave no two on a day -/
noncomputable def zch (M : zM) (s : Int) : Nat → Int := zsum (fun i => zb (zsum (fun d => zb (2 ≤ zpc (zsn M (zdh (s + i)) d))) 400 = 0))
def zfa (p : Int → Int) : Nat → Int × Int
  | 0 => (0, 1)
  | k + 1 => ((zfa p k).1 * p k + (zfa p k).2, (zfa p k).2 * p k)
theorem zfa_n {p : Int → Int} {i : Int} (h : 0 ≤ i) : zfa p (i + 1).toNat = ((zfa p i.toNat).1 * p i + (zfa p i.toNat).2, (zfa p i.toNat).2 * p i) := by
  rw [show (i + 1).toNat = i.toNat + 1 by omega]
  show ((zfa p i.toNat).1 * p (i.toNat : Int) + (zfa p i.toNat).2, (zfa p i.toNat).2 * p (i.toNat : Int)) = _
  rw [Int.toNat_of_nonneg h]
theorem zfa_r {p : Int → Int} : ∀ k : Nat, (∀ i : Int, 0 ≤ i → i < k → 1 ≤ p i ∧ p i ≤ 60) → 0 ≤ (zfa p k).1 ∧ (zfa p k).1 ≤ k * 60 ^ k ∧ 1 ≤ (zfa p k).2 ∧ (zfa p k).2 ≤ 60 ^ k := by
  intro k
  induction k with
  | zero => intro _; exact ⟨Int.le_refl _, by show (0 : Int) ≤ 0 * 60 ^ 0; decide, Int.le_refl _, by show (1 : Int) ≤ 60 ^ 0; decide⟩
  | succ k ih =>
    intro h
    have h1 := ih (fun i h0 h1 => h i h0 (by omega))
    have h2 := h k (by omega) (by omega)
    obtain ⟨a1, a2, b1, b2⟩ := h1
    show 0 ≤ (zfa p k).1 * p k + (zfa p k).2 ∧ (zfa p k).1 * p k + (zfa p k).2 ≤ ((k + 1 : Nat) : Int) * 60 ^ (k + 1) ∧ 1 ≤ (zfa p k).2 * p k ∧ (zfa p k).2 * p k ≤ 60 ^ (k + 1)
    have c1 : (zfa p k).1 * p k ≤ (k * 60 ^ k) * 60 := Int.mul_le_mul a2 h2.2 (by omega) (Int.mul_nonneg (by omega) (Int.le_of_lt (Int.pow_pos (by decide))))
    have c2 : 0 ≤ (zfa p k).1 * p k := Int.mul_nonneg a1 (by omega)
    have c3 : (zfa p k).2 * p k ≤ 60 ^ k * 60 := Int.mul_le_mul b2 h2.2 (by omega) (by omega)
    have c4 : 1 * 1 ≤ (zfa p k).2 * p k := Int.mul_le_mul b1 h2.1 (by omega) (by omega)
    have e1 : ((k + 1 : Nat) : Int) * 60 ^ (k + 1) = (k * 60 ^ k) * 60 + 60 ^ k * 60 := by
      rw [Int.natCast_succ, Int.pow_succ, Int.add_mul, Int.one_mul, ← Int.mul_assoc]
    have c5 : (1 : Int) ≤ 60 ^ k := Int.pow_pos (by decide)
    rw [e1, Int.pow_succ]
    omega
section
variable {g : zG} {N : Nat} {M : zM}
set_option maxRecDepth 20000 in
set_option maxHeartbeats 2000000 in
theorem kX9_chL (hR : zRo M) {s m k0 : Int} (hm : 1 ≤ m ∧ m ≤ 20) (hk : 0 ≤ k0 ∧ k0 ≤ 1) : ∀ (k : Nat) (i c : Int) (M1 : zM), i + k = m → 0 ≤ i → c = zch M s i.toNat → zFr zSc M M1 → zV g xX9_chance (zPq (zl (if k0 = 0 then zch M s m.toNat / zgc (zch M s m.toNat) m else m / zgc (zch M s m.toNat) m)) 75 (fun M1 => zFr zSc M M1)) 29 [zr 0, zi s, zi m, zi k0, zi c, zi i] [] 75 M1 0 0 := by
  intro k
  induction k with
  | zero =>
    intro i c M1 h0 h1 h2 h3
    obtain ⟨hS, hW, hU, hh⟩ := id hR
    have hn := hW.1
    have hR1 := hR.fr h3
    have hA1 := zAg.of h3
    have hcr := zsum_b (f := fun i => zb (zsum (fun d => zb (2 ≤ zpc (zsn M (zdh (s + i)) d))) 400 = 0)) (m := 1) (n := i.toNat) (fun k _ _ => zb_r _)
    refine zV_iload (pc := 29) dX9_chance_29 rfl ?_
    refine zV_iload_n (pc := 31) (i := 2) dX9_chance_31 rfl rfl ?_
    refine zV_icmp_ge (pc := 32) (tgt := 69) dX9_chance_32 (by decide) (by omega) (fun c_32 => ?_) (fun c_32 => absurd (by omega) c_32)
    refine zV_iload (pc := 69) dX9_chance_69 rfl ?_
    refine zV_i2l (pc := 71) dX9_chance_71 (by rw [h2]; unfold zch; omega) ?_
    refine zV_iload_n (pc := 72) (i := 2) dX9_chance_72 rfl rfl ?_
    refine zV_i2l (pc := 73) dX9_chance_73 (by omega) ?_
    refine zV_iload_n (pc := 74) (i := 3) dX9_chance_74 rfl rfl ?_
    refine zV_isp (pc := 75) dX9_chance_75 klX9_211 mX9_inLowestTerms rfl ⟨Nat.zero_le _, Nat.zero_le _⟩ (kX9_ilt (by rw [h2]; unfold zch; omega) (by omega) (by omega)) rfl rfl (Nat.le_of_ble_eq_true rfl) ?_
    refine zV_lret (pc := 78) dX9_chance_78 trivial ⟨Nat.zero_le _, Nat.zero_le _⟩ ?_
    rw [show i = m by omega] at h2
    exact ⟨by rw [h2], rfl, h3⟩
  | succ k ih =>
    intro i c M1 h0 h1 h2 h3
    obtain ⟨hS, hW, hU, hh⟩ := id hR
    have hn := hW.1
    have hR1 := hR.fr h3
    have hA1 := zAg.of h3
    have hcr := zsum_b (f := fun i => zb (zsum (fun d => zb (2 ≤ zpc (zsn M (zdh (s + i)) d))) 400 = 0)) (m := 1) (n := i.toNat) (fun k _ _ => zb_r _)
    refine zV_iload (pc := 29) dX9_chance_29 rfl ?_
    refine zV_iload_n (pc := 31) (i := 2) dX9_chance_31 rfl rfl ?_
    refine zV_icmp_ge (pc := 32) (tgt := 69) dX9_chance_32 (by decide) (by omega) (fun c_32 => absurd c_32 (by omega)) (fun c_32 => ?_)
    refine zV_aload_n (pc := 35) (i := 0) dX9_chance_35 rfl rfl ?_
    refine zV_get (pc := 36) (j := 6) dX9_chance_36 flX9_93 (zOb_of rfl) rfl hR1.1.1.e0_6 ?_
    refine zV_iload_n (pc := 39) (i := 1) dX9_chance_39 rfl rfl ?_
    refine zV_iload (pc := 40) dX9_chance_40 rfl ?_
    refine zV_iadd (pc := 42) dX9_chance_42 ?_
    refine zV_isp (pc := 43) dX9_chance_43 klX9_270 mX9_drawnHolidays rfl ⟨Nat.zero_le _, Nat.zero_le _⟩ kX9_drawnHolidays rfl rfl (Nat.le_of_ble_eq_true rfl) ?_
    refine zV_ivn (pc := 46) (ci := 0) dX9_chance_46 klX9_139 mX0_fill ⟨by decide, rfl⟩ rfl ⟨Nat.zero_le _, Nat.zero_le _⟩ (kX0_fill hR1.1.1 hR1.1.2.1 (zdh_r (s + i))) (zOb_of rfl) rfl rfl (Nat.le_of_ble_eq_true rfl) (fun M2 q => ?_)
    obtain ⟨q1, q2, q3⟩ := q
    have f2 : zFr zSc M M2 := h3.tr (q3.mono (fun a j e => by unfold zSc; omega))
    have hR2 := hR.fr f2
    have h6 : ∀ d : Int, 0 ≤ d → d < 400 → 0 ≤ zsn M1 (zdh (s + i)) d ∧ zsn M1 (zdh (s + i)) d < 64 := fun d _ _ => zsn_r (by rw [hA1.1]; exact hn) _ d
    have eS : zsn M1 (zdh (s + i)) = zsn M (zdh (s + i)) := funext (fun d => zsn_ag hA1 hn _ d)
    refine zV_aload_n (pc := 49) (i := 0) dX9_chance_49 rfl rfl ?_
    refine zV_get (pc := 50) (j := 6) dX9_chance_50 flX9_93 (zOb_of rfl) rfl hR2.1.1.e0_6 ?_
    refine zV_iconst (pc := 53) dX9_chance_53 ?_
    refine zV_ivp (pc := 54) (ci := 0) dX9_chance_54 klX9_159 mX0_daysWith ⟨by decide, rfl⟩ rfl ⟨Nat.zero_le _, Nat.zero_le _⟩ (kX0_daysWith hR2.1.1 q2 h6 (by omega)) (zOb_of rfl) rfl rfl (Nat.le_of_ble_eq_true rfl) ?_
    rw [eS]
    have hz := zsum_b (f := fun d => zb (2 ≤ zpc (zsn M (zdh (s + i)) d))) (m := 1) (n := 400) (fun k _ _ => zb_r _)
    generalize hD : zsum (fun d => zb (2 ≤ zpc (zsn M (zdh (s + i)) d))) 400 = D at hz ⊢
    refine zV_if_ne (pc := 57) (tgt := 63) dX9_chance_57 (by decide) (by omega) (fun c_57 => ?_) (fun c_57 => ?_)
    · refine zV_iinc (pc := 63) dX9_chance_63 rfl rfl ?_
      refine zV_goto (pc := 66) (tgt := 29) dX9_chance_66 (by decide) ?_
      first
        | exact ih (i + 1) _ M2 (by omega) (by omega) (by rw [h2]; unfold zch; rw [zsum_n (by omega), hD, zb_t c_57]) f2
        | exact ih (i + 1) _ M2 (by omega) (by omega) (by rw [h2]; unfold zch; rw [zsum_n (by omega), hD, zb_f c_57, Int.add_zero]) f2
    · refine zV_iinc (pc := 60) dX9_chance_60 rfl rfl ?_
      try dsimp only [List.set_cons_succ, List.set_cons_zero]
      refine zV_iinc (pc := 63) dX9_chance_63 rfl rfl ?_
      refine zV_goto (pc := 66) (tgt := 29) dX9_chance_66 (by decide) ?_
      first
        | exact ih (i + 1) _ M2 (by omega) (by omega) (by rw [h2]; unfold zch; rw [zsum_n (by omega), hD, zb_t c_57]) f2
        | exact ih (i + 1) _ M2 (by omega) (by omega) (by rw [h2]; unfold zch; rw [zsum_n (by omega), hD, zb_f c_57, Int.add_zero]) f2
set_option maxRecDepth 20000 in
set_option maxHeartbeats 2000000 in
theorem kX9_chance (hR : zRo M) {s m k : Int} (hm : -2147483648 ≤ m ∧ m ≤ 2147483647) (hk : -2147483648 ≤ k ∧ k ≤ 2147483647) : zK g yX9_chance xX9_chance [zr 0, zi s, zi m, zi k] 75 M (zPq (zl (zif ((1 ≤ m ∧ m ≤ 20) ∧ (0 ≤ k ∧ k ≤ 1)) (if k = 0 then zch M s m.toNat / zgc (zch M s m.toNat) m else m / zgc (zch M s m.toNat) m) (-4611686018427387904))) 75 (fun M1 => zFr zSc M M1)) := by
  refine zK_of (ls0 := [zr 0, zi s, zi m, zi k, (3, 0), (3, 0)]) (by decide) rfl (by decide) rfl (Nat.le_of_ble_eq_true rfl) ?_
  obtain ⟨hS, hW, hU, hh⟩ := id hR
  have hn := hW.1
  refine zV_iload_n (pc := 0) (i := 2) dX9_chance_0 rfl rfl ?_
  refine zV_iconst (pc := 1) dX9_chance_1 ?_
  refine zV_bipush (pc := 2) dX9_chance_2 (by decide) ?_
  refine zV_isp (pc := 4) dX9_chance_4 klX9_119 mX9_within rfl ⟨Nat.zero_le _, Nat.zero_le _⟩ (kX9_within (by omega) (by omega) (by omega)) rfl rfl (Nat.le_of_ble_eq_true rfl) ?_
  refine zV_if_eqb (pc := 7) (tgt := 19) dX9_chance_7 (by decide) (fun c_7 => ?_) (fun c_7 => ?_)
  · refine zV_ldc2 (pc := 19) dX9_chance_19 kiX9_184 ?_
    refine zV_lret (pc := 22) dX9_chance_22 trivial ⟨Nat.zero_le _, Nat.zero_le _⟩ ?_
    first
      | exact ⟨by rw [zif_f (fun q => c_7 q.1)], rfl, zFr.rf⟩
      | exact ⟨by rw [zif_f (fun q => c_16 q.2)], rfl, zFr.rf⟩
  · refine zV_iload_n (pc := 10) (i := 3) dX9_chance_10 rfl rfl ?_
    refine zV_iconst (pc := 11) dX9_chance_11 ?_
    refine zV_iconst (pc := 12) dX9_chance_12 ?_
    refine zV_isp (pc := 13) dX9_chance_13 klX9_119 mX9_within rfl ⟨Nat.zero_le _, Nat.zero_le _⟩ (kX9_within (by omega) (by omega) (by omega)) rfl rfl (Nat.le_of_ble_eq_true rfl) ?_
    refine zV_if_neb (pc := 16) (tgt := 23) dX9_chance_16 (by decide) (fun c_16 => ?_) (fun c_16 => ?_)
    · refine zV_iconst (pc := 23) dX9_chance_23 ?_
      refine zV_istore (pc := 24) dX9_chance_24 rfl ?_
      try dsimp only [List.set_cons_succ, List.set_cons_zero]
      refine zV_iconst (pc := 26) dX9_chance_26 ?_
      refine zV_istore (pc := 27) dX9_chance_27 rfl ?_
      try dsimp only [List.set_cons_succ, List.set_cons_zero]
      exact (kX9_chL hR c_7 c_16 m.toNat 0 0 M (by omega) (by omega) rfl zFr.rf).mono (fun v N9 M9 q => ⟨by rw [zif_t ⟨c_7, c_16⟩]; exact q.1, q.2⟩)
    · refine zV_ldc2 (pc := 19) dX9_chance_19 kiX9_184 ?_
      refine zV_lret (pc := 22) dX9_chance_22 trivial ⟨Nat.zero_le _, Nat.zero_le _⟩ ?_
      first
        | exact ⟨by rw [zif_f (fun q => c_7 q.1)], rfl, zFr.rf⟩
        | exact ⟨by rw [zif_f (fun q => c_16 q.2)], rfl, zFr.rf⟩
set_option maxRecDepth 20000 in
set_option maxHeartbeats 2000000 in
theorem kX9_fuL (hS : zSt M) (hW : zWf M) {k0 : Int} (hk : 0 ≤ k0 ∧ k0 ≤ 1) : ∀ (k : Nat) (i a b : Int) (w7 : zv), i + k = 6 → 0 ≤ i → a = (zfa (fun i => zTc M i 2) (min i (M 1 1)).toNat).1 → b = (zfa (fun i => zTc M i 2) (min i (M 1 1)).toNat).2 → zV g xX9_full (zPp (zl (if k0 = 0 then (zfa (fun i => zTc M i 2) (M 1 1).toNat).1 / zgc (zfa (fun i => zTc M i 2) (M 1 1).toNat).1 (zfa (fun i => zTc M i 2) (M 1 1).toNat).2 else (zfa (fun i => zTc M i 2) (M 1 1).toNat).2 / zgc (zfa (fun i => zTc M i 2) (M 1 1).toNat).1 (zfa (fun i => zTc M i 2) (M 1 1).toNat).2)) 75 M) 21 [zr 0, zi k0, zl a, (3, 0), zl b, (3, 0), zi i, w7] [] 75 M 0 0 := by
  intro k
  induction k with
  | zero =>
    intro i a b w7 h0 h1 h2 h3
    have hn := hW.1
    have hz := zfa_r (p := (fun i => zTc M i 2)) (min i (M 1 1)).toNat (fun j j0 j1 => (hW.2 j j0 (by omega)).2.2.1)
    have h60 : (60 : Int) ^ (min i (M 1 1)).toNat ≤ 46656000000 := by
      rcases (show min i (M 1 1) = 0 ∨ min i (M 1 1) = 1 ∨ min i (M 1 1) = 2 ∨ min i (M 1 1) = 3 ∨ min i (M 1 1) = 4 ∨ min i (M 1 1) = 5 ∨ min i (M 1 1) = 6 by omega) with e | e | e | e | e | e | e <;> rw [e] <;> decide
    have h61 : ((min i (M 1 1)).toNat : Int) * 60 ^ (min i (M 1 1)).toNat ≤ 279936000000 := by
      rcases (show min i (M 1 1) = 0 ∨ min i (M 1 1) = 1 ∨ min i (M 1 1) = 2 ∨ min i (M 1 1) = 3 ∨ min i (M 1 1) = 4 ∨ min i (M 1 1) = 5 ∨ min i (M 1 1) = 6 by omega) with e | e | e | e | e | e | e <;> rw [e] <;> decide
    refine zV_iload (pc := 21) dX9_full_21 rfl ?_
    refine zV_bipush (pc := 23) dX9_full_23 (by decide) ?_
    refine zV_icmp_ge (pc := 25) (tgt := 78) dX9_full_25 (by decide) (by omega) (fun c_25 => ?_) (fun c_25 => absurd (by omega) c_25)
    refine zV_lload_n (pc := 78) (i := 2) dX9_full_78 rfl rfl ?_
    refine zV_lload (pc := 79) dX9_full_79 rfl ?_
    refine zV_iload_n (pc := 81) (i := 1) dX9_full_81 rfl rfl ?_
    refine zV_isp (pc := 82) dX9_full_82 klX9_211 mX9_inLowestTerms rfl ⟨Nat.zero_le _, Nat.zero_le _⟩ (kX9_ilt (by rw [h2]; omega) (by rw [h3]; omega) (by omega)) rfl rfl (Nat.le_of_ble_eq_true rfl) ?_
    refine zV_lret (pc := 85) dX9_full_85 trivial ⟨Nat.zero_le _, Nat.zero_le _⟩ ?_
    rw [show min i (M 1 1) = M 1 1 by omega] at h2 h3
    exact zPl (by rw [h2, h3])
  | succ k ih =>
    intro i a b w7 h0 h1 h2 h3
    have hn := hW.1
    have hz := zfa_r (p := (fun i => zTc M i 2)) (min i (M 1 1)).toNat (fun j j0 j1 => (hW.2 j j0 (by omega)).2.2.1)
    have h60 : (60 : Int) ^ (min i (M 1 1)).toNat ≤ 46656000000 := by
      rcases (show min i (M 1 1) = 0 ∨ min i (M 1 1) = 1 ∨ min i (M 1 1) = 2 ∨ min i (M 1 1) = 3 ∨ min i (M 1 1) = 4 ∨ min i (M 1 1) = 5 ∨ min i (M 1 1) = 6 by omega) with e | e | e | e | e | e | e <;> rw [e] <;> decide
    have h61 : ((min i (M 1 1)).toNat : Int) * 60 ^ (min i (M 1 1)).toNat ≤ 279936000000 := by
      rcases (show min i (M 1 1) = 0 ∨ min i (M 1 1) = 1 ∨ min i (M 1 1) = 2 ∨ min i (M 1 1) = 3 ∨ min i (M 1 1) = 4 ∨ min i (M 1 1) = 5 ∨ min i (M 1 1) = 6 by omega) with e | e | e | e | e | e | e <;> rw [e] <;> decide
    refine zV_iload (pc := 21) dX9_full_21 rfl ?_
    refine zV_bipush (pc := 23) dX9_full_23 (by decide) ?_
    refine zV_icmp_ge (pc := 25) (tgt := 78) dX9_full_25 (by decide) (by omega) (fun c_25 => absurd c_25 (by omega)) (fun c_25 => ?_)
    refine zV_aload_n (pc := 28) (i := 0) dX9_full_28 rfl rfl ?_
    refine zV_get (pc := 29) (j := 0) dX9_full_29 flX9_12 (zOb_of rfl) rfl hS.e0_0 ?_
    refine zV_iload (pc := 32) dX9_full_32 rfl ?_
    refine zV_ivp (pc := 34) (ci := 5) dX9_full_34 klX9_100 mX5_has ⟨by decide, rfl⟩ rfl ⟨Nat.zero_le _, Nat.zero_le _⟩ (kX5_has hS hn (by omega)) (zOb_of rfl) rfl rfl (Nat.le_of_ble_eq_true rfl) ?_
    refine zV_if_eqb (pc := 37) (tgt := 72) dX9_full_37 (by decide) (fun c_37 => ?_) (fun c_37 => ?_)
    · refine zV_iinc (pc := 72) dX9_full_72 rfl rfl ?_
      try dsimp only [List.set_cons_succ, List.set_cons_zero]
      refine zV_goto (pc := 75) (tgt := 21) dX9_full_75 (by decide) ?_
      first
        | exact ih (i + 1) _ _ _ (by omega) (by omega) (by rw [show min (i + 1) (M 1 1) = i + 1 by omega, zfa_n (by omega), h2, h3]; rfl) (by rw [show min (i + 1) (M 1 1) = i + 1 by omega, zfa_n (by omega), h3]; rfl)
        | exact ih (i + 1) _ _ _ (by omega) (by omega) (by rw [h2, show min (i + 1) (M 1 1) = min i (M 1 1) by omega]) (by rw [h3, show min (i + 1) (M 1 1) = min i (M 1 1) by omega])
    · rw [show min i (M 1 1) = i by omega] at h2 h3
      refine zV_aload_n (pc := 40) (i := 0) dX9_full_40 rfl rfl ?_
      refine zV_get (pc := 41) (j := 0) dX9_full_41 flX9_12 (zOb_of rfl) rfl hS.e0_0 ?_
      refine zV_get (pc := 44) (j := 0) dX9_full_44 flX9_108 (zOb_of rfl) rfl hS.e1_0 ?_
      refine zV_iload (pc := 47) dX9_full_47 rfl ?_
      refine zV_aald (pc := 49) dX9_full_49 (zAr_of rfl : zAr 75 2 2 6) ⟨rfl, rfl⟩ (by omega) (hS.th (by omega)) ?_
      refine zV_get (pc := 50) (j := 2) dX9_full_50 flX9_208 (zOb_th (by omega)) rfl rfl ?_
      refine zV_istore (pc := 53) dX9_full_53 rfl ?_
      try dsimp only [List.set_cons_succ, List.set_cons_zero]
      refine zV_lload_n (pc := 55) (i := 2) dX9_full_55 rfl rfl ?_
      refine zV_iload (pc := 56) dX9_full_56 rfl ?_
      refine zV_i2l (pc := 58) dX9_full_58 (by have := (hW.2 i (by omega) (by omega)).2.2.1; omega) ?_
      refine zV_lmul (pc := 59) dX9_full_59 ?_
      refine zV_lload (pc := 60) dX9_full_60 rfl ?_
      refine zV_ladd (pc := 62) dX9_full_62 ?_
      refine zV_lstore_n (pc := 63) (i := 2) dX9_full_63 rfl rfl ?_
      try dsimp only [List.set_cons_succ, List.set_cons_zero]
      refine zV_lload (pc := 64) dX9_full_64 rfl ?_
      refine zV_iload (pc := 66) dX9_full_66 rfl ?_
      refine zV_i2l (pc := 68) dX9_full_68 (by have := (hW.2 i (by omega) (by omega)).2.2.1; omega) ?_
      refine zV_lmul (pc := 69) dX9_full_69 ?_
      refine zV_lstore (pc := 70) dX9_full_70 rfl ?_
      try dsimp only [List.set_cons_succ, List.set_cons_zero]
      refine zV_iinc (pc := 72) dX9_full_72 rfl rfl ?_
      try dsimp only [List.set_cons_succ, List.set_cons_zero]
      refine zV_goto (pc := 75) (tgt := 21) dX9_full_75 (by decide) ?_
      first
        | exact ih (i + 1) _ _ _ (by omega) (by omega) (by rw [show min (i + 1) (M 1 1) = i + 1 by omega, zfa_n (by omega), h2, h3]; rfl) (by rw [show min (i + 1) (M 1 1) = i + 1 by omega, zfa_n (by omega), h3]; rfl)
        | exact ih (i + 1) _ _ _ (by omega) (by omega) (by rw [h2, show min (i + 1) (M 1 1) = min i (M 1 1) by omega]) (by rw [h3, show min (i + 1) (M 1 1) = min i (M 1 1) by omega])
set_option maxRecDepth 20000 in
set_option maxHeartbeats 2000000 in
theorem kX9_full (hS : zSt M) (hW : zWf M) {k : Int} (hk : -2147483648 ≤ k ∧ k ≤ 2147483647) : zK g yX9_full xX9_full [zr 0, zi k] 75 M (zPp (zl (zif (0 ≤ k ∧ k ≤ 1) (if k = 0 then (zfa (fun i => zTc M i 2) (M 1 1).toNat).1 / zgc (zfa (fun i => zTc M i 2) (M 1 1).toNat).1 (zfa (fun i => zTc M i 2) (M 1 1).toNat).2 else (zfa (fun i => zTc M i 2) (M 1 1).toNat).2 / zgc (zfa (fun i => zTc M i 2) (M 1 1).toNat).1 (zfa (fun i => zTc M i 2) (M 1 1).toNat).2) (-4611686018427387904))) 75 M) := by
  refine zK_of (ls0 := [zr 0, zi k, (3, 0), (3, 0), (3, 0), (3, 0), (3, 0), (3, 0)]) (by decide) rfl (by decide) rfl (Nat.le_of_ble_eq_true rfl) ?_
  have hn := hW.1
  refine zV_iload_n (pc := 0) (i := 1) dX9_full_0 rfl rfl ?_
  refine zV_iconst (pc := 1) dX9_full_1 ?_
  refine zV_iconst (pc := 2) dX9_full_2 ?_
  refine zV_isp (pc := 3) dX9_full_3 klX9_119 mX9_within rfl ⟨Nat.zero_le _, Nat.zero_le _⟩ (kX9_within (by omega) (by omega) (by omega)) rfl rfl (Nat.le_of_ble_eq_true rfl) ?_
  refine zV_if_neb (pc := 6) (tgt := 13) dX9_full_6 (by decide) (fun c_6 => ?_) (fun c_6 => ?_)
  · refine zV_lconst0 (pc := 13) dX9_full_13 ?_
    refine zV_lstore_n (pc := 14) (i := 2) dX9_full_14 rfl rfl ?_
    try dsimp only [List.set_cons_succ, List.set_cons_zero]
    refine zV_lconst1 (pc := 15) dX9_full_15 ?_
    refine zV_lstore (pc := 16) dX9_full_16 rfl ?_
    try dsimp only [List.set_cons_succ, List.set_cons_zero]
    refine zV_iconst (pc := 18) dX9_full_18 ?_
    refine zV_istore (pc := 19) dX9_full_19 rfl ?_
    try dsimp only [List.set_cons_succ, List.set_cons_zero]
    exact (kX9_fuL hS hW c_6 6 0 0 1 _ (by omega) (by omega) (by rw [show min 0 (M 1 1) = 0 by omega]; rfl) (by rw [show min 0 (M 1 1) = 0 by omega]; rfl)).mono (fun v N9 M9 q => ⟨by rw [zif_t c_6]; exact q.1, q.2⟩)
  · refine zV_ldc2 (pc := 9) dX9_full_9 kiX9_184 ?_
    refine zV_lret (pc := 12) dX9_full_12 trivial ⟨Nat.zero_le _, Nat.zero_le _⟩ ?_
    exact zPl (by rw [zif_f c_6])
end
