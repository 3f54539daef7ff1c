/-! THE MODEL: the year, draws, chance, full (printed by wip/whole/p55.py) -/
noncomputable def zym (c f : Int → Int) (k : Int) : Int := if k = 0 then zsum c 400 else if k < 3 then zsum (fun d => zb (k ≤ zpc (f d))) 400 else if k = 3 then zlm f 400 else if k = 4 then zlf f 400 else if k = 5 then zfw (zwk f) 56 else if k = 6 then zwk f (zfw (zwk f) 56) else if k = 7 then zfw c 399 else c (zfw c 399)
theorem zFr.back {C : Int → Int → Prop} {M M2 : zM} {a j v : Int} (h : zFr C (zU M a j v) M2) : zFr C M (zU M2 a j (M a j)) := by
  intro x y hc
  by_cases e : x = a
  · by_cases e2 : y = j
    · subst e
      subst e2
      exact zU_s _ _ _ _
    · exact (zU_j _ _ _ _ e2).trans ((h x y hc).trans (zU_j _ _ _ _ e2))
  · exact (zU_a _ _ _ _ e).trans ((h x y hc).trans (zU_a _ _ _ _ e))
/-- who comes on d, with holidays h -/
noncomputable def zfh (M : zM) (h : Int) : Int → Int := fun d => zso (zct (zTm M) h d) (M 58 12).toNat
theorem zTm_h (M : zM) (h i f : Int) (hf : 0 ≤ f ∧ f ≤ 3) : zTm (zU M 58 7 h) i f = zTm M i f := zU_a _ _ _ _ (by omega)
theorem zfm_h (M : zM) (h : Int) : zfm (zU M 58 7 h) = zfh M h := by
  funext d
  unfold zfm zfh
  rw [show zU M 58 7 h 58 12 = M 58 12 from zU_j _ _ _ _ (by decide), show zU M 58 7 h 58 7 = h from zU_s _ _ _ _]
  exact zso_c (fun i _ _ => by rw [zct_e (T := zTm (zU M 58 7 h)) (T' := zTm M) (fun f f0 f1 => zTm_h M h i f ⟨f0, f1⟩) rfl])
theorem zkm_h (M : zM) (h : Int) (tp : Int → Int) (z : Int) (f : Int → Int) (d : Int) : zkm (zU M 58 7 h) tp z f d = zkm M tp z f d := by
  unfold zkm zcost
  rw [zU_j _ _ _ _ (by decide)]
  have e : zsum (fun i => zif (zbt (f d) i) (zsp (zTm (zU M 58 7 h) i 0) (zTm (zU M 58 7 h) i 1) (ztt tp z 0 (znm d i (zpc (f d)) (zTm (zU M 58 7 h) i 2) (zra f d.toNat) (zTm (zU M 58 7 h) i 1)))) 0) (M 58 12).toNat = zsum (fun i => zif (zbt (f d) i) (zsp (zTm M i 0) (zTm M i 1) (ztt tp z 0 (znm d i (zpc (f d)) (zTm M i 2) (zra f d.toNat) (zTm M i 1)))) 0) (M 58 12).toNat :=
    zsum_c (fun i _ _ => by rw [zTm_h M h i 0 (by decide), zTm_h M h i 1 (by decide), zTm_h M h i 2 (by decide)])
  rw [e]
theorem zRo2.h {M : zM} {tp : Int → Int} {z h : Int} (hR : zRo2 M tp z) (hh : 0 ≤ h ∧ h ≤ 127) : zRo2 (zU M 58 7 h) tp z := by
  obtain ⟨h1, h2, h3, h4⟩ := hR
  have e12 : zU M 58 7 h 58 12 = M 58 12 := zU_j _ _ _ _ (by decide)
  have e4 : zU M 58 7 h 58 4 = M 58 4 := zU_j _ _ _ _ (by decide)
  refine ⟨h1.fr (C := fun a j => a = 58 ∧ j = 7) (zFr.rf.up ⟨rfl, rfl⟩) (by decide), ⟨by rw [e12]; exact h2.1, fun i i0 i1 => ?_⟩, ?_, by rw [zU_s]; exact hh⟩
  · have := h2.2 i i0 (by omega)
    unfold zTt at this ⊢
    rw [zTm_h M h i 0 (by decide), zTm_h M h i 1 (by decide), zTm_h M h i 2 (by decide), zTm_h M h i 3 (by decide)]
    exact this
  · unfold zMU at h3 ⊢
    rw [e4]
    exact ⟨h3.1, (zU_a _ _ _ _ (by decide)).trans h3.2.1, fun j j0 j1 => (zU_a _ _ _ _ (by decide)).trans (h3.2.2.1 j j0 j1), h3.2.2.2⟩
/-- above and below the line, lowest terms kept -/
def zfb (p : Int → Int) : Nat → Int × Int
  | 0 => (0, 1)
  | k + 1 => (((zfb p k).1 * p k + (zfb p k).2) / zgc ((zfb p k).1 * p k + (zfb p k).2) ((zfb p k).2 * p k), ((zfb p k).2 * p k) / zgc ((zfb p k).1 * p k + (zfb p k).2) ((zfb p k).2 * p k))
theorem zfb_r (p : Int → Int) : ∀ k : Nat, (∀ j : Int, 0 ≤ j → j < k → 1 ≤ p j ∧ p j ≤ 60) → (0 ≤ (zfb p k).1 ∧ (zfb p k).1 ≤ k * 60 ^ k) ∧ 1 ≤ (zfb p k).2 ∧ (zfb p k).2 ≤ 60 ^ k := by
  intro k
  induction k with
  | zero => intro _; exact ⟨⟨by show (0 : Int) ≤ 0; decide, by show (0 : Int) ≤ 0 * 60 ^ 0; decide⟩, by show (1 : Int) ≤ 1; decide, by show (1 : Int) ≤ 60 ^ 0; decide⟩
  | succ k ih =>
    intro h
    have i := ih (fun j h0 h1 => h j h0 (by omega))
    have hp := h k (by omega) (by omega)
    generalize hq : (60 : Int) ^ k = q at i
    have e60 : (60 : Int) ^ (k + 1) = q * 60 := by rw [Int.pow_succ, hq]
    have m1 : (zfb p k).1 * p k ≤ k * q * 60 := Int.le_trans (Int.mul_le_mul_of_nonneg_left hp.2 i.1.1) (Int.mul_le_mul_of_nonneg_right i.1.2 (by decide))
    have m0 : 0 ≤ (zfb p k).1 * p k := Int.mul_nonneg i.1.1 (by omega)
    have m2 : (zfb p k).2 * p k ≤ q * 60 := Int.le_trans (Int.mul_le_mul_of_nonneg_left hp.2 (by omega)) (Int.mul_le_mul_of_nonneg_right i.2.2 (by decide))
    have m3 : 1 * 1 ≤ (zfb p k).2 * p k := Int.mul_le_mul i.2.1 hp.1 (by decide) (by omega)
    have gp := zgc_p (a := (zfb p k).1 * p k + (zfb p k).2) (b := (zfb p k).2 * p k) (Or.inr (by omega))
    have gl := zgc_le2 (a := (zfb p k).1 * p k + (zfb p k).2) (b := (zfb p k).2 * p k) (by omega)
    show (0 ≤ ((zfb p k).1 * p k + (zfb p k).2) / zgc ((zfb p k).1 * p k + (zfb p k).2) ((zfb p k).2 * p k) ∧ ((zfb p k).1 * p k + (zfb p k).2) / zgc ((zfb p k).1 * p k + (zfb p k).2) ((zfb p k).2 * p k) ≤ ((k + 1 : Nat) : Int) * 60 ^ (k + 1)) ∧ 1 ≤ ((zfb p k).2 * p k) / zgc ((zfb p k).1 * p k + (zfb p k).2) ((zfb p k).2 * p k) ∧ ((zfb p k).2 * p k) / zgc ((zfb p k).1 * p k + (zfb p k).2) ((zfb p k).2 * p k) ≤ 60 ^ (k + 1)
    rw [e60]
    have kq : ((k + 1 : Nat) : Int) * (q * 60) = k * q * 60 + q * 60 := by rw [Int.natCast_succ, Int.add_mul, Int.one_mul, ← Int.mul_assoc]
    rw [kq]
    generalize (zfb p k).1 * p k = A at *
    generalize (zfb p k).2 * p k = B at *
    generalize zgc (A + (zfb p k).2) B = G at *
    have d1 := Int.ediv_le_self (a := A + (zfb p k).2) G (by omega)
    have d2 := Int.ediv_nonneg (a := A + (zfb p k).2) (b := G) (by omega) (by omega)
    have d3 := Int.ediv_le_self (a := B) G (by omega)
    have d4 : 1 ≤ B / G := (Int.le_ediv_iff_mul_le (by omega)).mpr (by omega)
    refine ⟨⟨d2, ?_⟩, d4, by omega⟩
    have : (zfb p k).2 ≤ q * 60 := by have := i.2.2; omega
    omega
section
variable {g : zG} {N : Nat} {M : zM}
set_option maxRecDepth 20000 in
set_option maxHeartbeats 2000000 in
theorem kX10_ywL (hS : zSt M) {f : Int → Int} (hL : zLv M f) (h6 : ∀ d : Int, 0 ≤ d → d < 400 → 0 ≤ f d ∧ f d < 64) {k0 s0 : Int} {P : zP} : ∀ (k : Nat) (v a : Int), v + k = 57 → 1 ≤ v → a = zfw (zwk f) (v - 1).toNat → (∀ v : Int, v = 57 → zV g xX10_year (P) 108 [zr 58, zi k0, zi s0, zi (zfw (zwk f) 56), zi v] [] 75 M 0 0) → zV g xX10_year (P) 74 [zr 58, zi k0, zi s0, zi a, zi v] [] 75 M 0 0 := by
  intro k
  induction k with
  | zero =>
    intro v a h0 h1 h2 h3
    have hz := zfw_r (zwk f) (v - 1).toNat
    have hw1 := fun (x : Int) (h : 0 ≤ x ∧ x ≤ 56) => zwk_r h h6
    refine zV_iload (pc := 74) dX10_year_74 rfl ?_
    refine zV_bipush (pc := 76) dX10_year_76 (by decide) ?_
    refine zV_icmp_ge (pc := 78) (tgt := 108) dX10_year_78 (by decide) (by omega) (fun c_78 => ?_) (fun c_78 => absurd (by omega) c_78)
    rw [show v = 57 by omega] at h2
    have e5 : a = zfw (zwk f) 56 := h2
    rw [← e5] at h3
    exact h3 v (by omega)
  | succ k ih =>
    intro v a h0 h1 h2 h3
    have hz := zfw_r (zwk f) (v - 1).toNat
    have hw1 := fun (x : Int) (h : 0 ≤ x ∧ x ≤ 56) => zwk_r h h6
    refine zV_iload (pc := 74) dX10_year_74 rfl ?_
    refine zV_bipush (pc := 76) dX10_year_76 (by decide) ?_
    refine zV_icmp_ge (pc := 78) (tgt := 108) dX10_year_78 (by decide) (by omega) (fun c_78 => absurd c_78 (by omega)) (fun c_78 => ?_)
    refine zV_aload_n (pc := 81) (i := 0) dX10_year_81 rfl rfl ?_
    refine zV_iload (pc := 82) dX10_year_82 rfl ?_
    refine zV_ivp (pc := 84) (ci := 10) dX10_year_84 klX10_376 mX10_inWeek ⟨by decide, rfl⟩ rfl ⟨Nat.zero_le _, Nat.zero_le _⟩ (kX10_inWeek hS hL h6 (by omega)) (zOb_of rfl) rfl rfl (Nat.le_of_ble_eq_true rfl) ?_
    refine zV_aload_n (pc := 87) (i := 0) dX10_year_87 rfl rfl ?_
    refine zV_iload_n (pc := 88) (i := 3) dX10_year_88 rfl rfl ?_
    refine zV_ivp (pc := 89) (ci := 10) dX10_year_89 klX10_376 mX10_inWeek ⟨by decide, rfl⟩ rfl ⟨Nat.zero_le _, Nat.zero_le _⟩ (kX10_inWeek hS hL h6 (by omega)) (zOb_of rfl) rfl rfl (Nat.le_of_ble_eq_true rfl) ?_
    refine zV_icmp_le (pc := 92) (tgt := 100) dX10_year_92 (by decide) (by have r1 := hw1 v (by omega); have r2 := hw1 a (by omega); omega) (fun c_92 => ?_) (fun c_92 => ?_)
    · refine zV_iload_n (pc := 100) (i := 3) dX10_year_100 rfl rfl ?_
      refine zV_istore_n (pc := 101) (i := 3) dX10_year_101 rfl rfl ?_
      try dsimp only [List.set_cons_succ, List.set_cons_zero]
      refine zV_iinc (pc := 102) dX10_year_102 rfl rfl ?_
      try dsimp only [List.set_cons_succ, List.set_cons_zero]
      refine zV_goto (pc := 105) (tgt := 74) dX10_year_105 (by decide) ?_
      rw [h2] at *
      first
        | exact ih (v + 1) _ (by omega) (by omega) (by rw [show (v + 1 - 1).toNat = v.toNat by omega]; exact (zfw_t (c := zwk f) (by omega) (by omega)).symm) h3
        | exact ih (v + 1) _ (by omega) (by omega) (by rw [show (v + 1 - 1).toNat = v.toNat by omega]; exact (zfw_f (c := zwk f) (by omega) (by omega)).symm) h3
    · refine zV_iload (pc := 95) dX10_year_95 rfl ?_
      refine zV_goto (pc := 97) (tgt := 101) dX10_year_97 (by decide) ?_
      refine zV_istore_n (pc := 101) (i := 3) dX10_year_101 rfl rfl ?_
      try dsimp only [List.set_cons_succ, List.set_cons_zero]
      refine zV_iinc (pc := 102) dX10_year_102 rfl rfl ?_
      try dsimp only [List.set_cons_succ, List.set_cons_zero]
      refine zV_goto (pc := 105) (tgt := 74) dX10_year_105 (by decide) ?_
      rw [h2] at *
      first
        | exact ih (v + 1) _ (by omega) (by omega) (by rw [show (v + 1 - 1).toNat = v.toNat by omega]; exact (zfw_t (c := zwk f) (by omega) (by omega)).symm) h3
        | exact ih (v + 1) _ (by omega) (by omega) (by rw [show (v + 1 - 1).toNat = v.toNat by omega]; exact (zfw_f (c := zwk f) (by omega) (by omega)).symm) h3
set_option maxRecDepth 20000 in
set_option maxHeartbeats 2000000 in
theorem kX10_ydL (hS : zSt M) {c : Int → Int} (hc : ∀ d : Int, 0 ≤ d → d < 400 → M 68 d = c d ∧ 0 ≤ c d ∧ c d ≤ 1300) {k0 s0 : Int} {P : zP} : ∀ (k : Nat) (d a : Int), d + k = 400 → 1 ≤ d → a = zfw c (d - 1).toNat → (∀ d : Int, d = 400 → zV g xX10_year (P) 163 [zr 58, zi k0, zi s0, zi (zfw c 399), zi d] [] 75 M 0 0) → zV g xX10_year (P) 126 [zr 58, zi k0, zi s0, zi a, zi d] [] 75 M 0 0 := by
  intro k
  induction k with
  | zero =>
    intro d a h0 h1 h2 h3
    have hz := zfw_r c (d - 1).toNat
    refine zV_iload (pc := 126) dX10_year_126 rfl ?_
    refine zV_sipush (pc := 128) dX10_year_128 (by decide) ?_
    refine zV_icmp_ge (pc := 131) (tgt := 163) dX10_year_131 (by decide) (by omega) (fun c_131 => ?_) (fun c_131 => absurd (by omega) c_131)
    rw [show d = 400 by omega] at h2
    have e5 : a = zfw c 399 := h2
    rw [← e5] at h3
    exact h3 d (by omega)
  | succ k ih =>
    intro d a h0 h1 h2 h3
    have hz := zfw_r c (d - 1).toNat
    refine zV_iload (pc := 126) dX10_year_126 rfl ?_
    refine zV_sipush (pc := 128) dX10_year_128 (by decide) ?_
    refine zV_icmp_ge (pc := 131) (tgt := 163) dX10_year_131 (by decide) (by omega) (fun c_131 => absurd c_131 (by omega)) (fun c_131 => ?_)
    refine zV_aload_n (pc := 134) (i := 0) dX10_year_134 rfl rfl ?_
    refine zV_get (pc := 135) (j := 30) dX10_year_135 flX10_41 (zOb_of rfl) rfl hS.e58_30 ?_
    refine zV_iload (pc := 138) dX10_year_138 rfl ?_
    refine zV_iald (pc := 140) dX10_year_140 (zAr_of rfl : zAr 75 68 0 400) (by omega) (hc d (by omega) (by omega)).1 ?_
    refine zV_aload_n (pc := 141) (i := 0) dX10_year_141 rfl rfl ?_
    refine zV_get (pc := 142) (j := 30) dX10_year_142 flX10_41 (zOb_of rfl) rfl hS.e58_30 ?_
    refine zV_iload_n (pc := 145) (i := 3) dX10_year_145 rfl rfl ?_
    refine zV_iald (pc := 146) dX10_year_146 (zAr_of rfl : zAr 75 68 0 400) (by omega) (hc a (by omega) (by omega)).1 ?_
    refine zV_icmp_le (pc := 147) (tgt := 155) dX10_year_147 (by decide) (by have r1 := hc d (by omega) (by omega); have r2 := hc a (by omega) (by omega); omega) (fun c_147 => ?_) (fun c_147 => ?_)
    · refine zV_iload_n (pc := 155) (i := 3) dX10_year_155 rfl rfl ?_
      refine zV_istore_n (pc := 156) (i := 3) dX10_year_156 rfl rfl ?_
      try dsimp only [List.set_cons_succ, List.set_cons_zero]
      refine zV_iinc (pc := 157) dX10_year_157 rfl rfl ?_
      try dsimp only [List.set_cons_succ, List.set_cons_zero]
      refine zV_goto (pc := 160) (tgt := 126) dX10_year_160 (by decide) ?_
      rw [h2] at *
      first
        | exact ih (d + 1) _ (by omega) (by omega) (by rw [show (d + 1 - 1).toNat = d.toNat by omega]; exact (zfw_t (c := c) (by omega) (by omega)).symm) h3
        | exact ih (d + 1) _ (by omega) (by omega) (by rw [show (d + 1 - 1).toNat = d.toNat by omega]; exact (zfw_f (c := c) (by omega) (by omega)).symm) h3
    · refine zV_iload (pc := 150) dX10_year_150 rfl ?_
      refine zV_goto (pc := 152) (tgt := 156) dX10_year_152 (by decide) ?_
      refine zV_istore_n (pc := 156) (i := 3) dX10_year_156 rfl rfl ?_
      try dsimp only [List.set_cons_succ, List.set_cons_zero]
      refine zV_iinc (pc := 157) dX10_year_157 rfl rfl ?_
      try dsimp only [List.set_cons_succ, List.set_cons_zero]
      refine zV_goto (pc := 160) (tgt := 126) dX10_year_160 (by decide) ?_
      rw [h2] at *
      first
        | exact ih (d + 1) _ (by omega) (by omega) (by rw [show (d + 1 - 1).toNat = d.toNat by omega]; exact (zfw_t (c := c) (by omega) (by omega)).symm) h3
        | exact ih (d + 1) _ (by omega) (by omega) (by rw [show (d + 1 - 1).toNat = d.toNat by omega]; exact (zfw_f (c := c) (by omega) (by omega)).symm) h3
set_option maxRecDepth 20000 in
set_option maxHeartbeats 2000000 in
theorem kX10_year {tp : Int → Int} {z : Int} (hR : zRo2 M tp z) {k : Int} (hk : -2147483648 ≤ k ∧ k ≤ 2147483647) : zK g yX10_year xX10_year [zr 58, zi k] 75 M (zPq (zi (zif (0 ≤ k ∧ k ≤ 8) (zym (zkm M tp z (zfm M)) (zfm M) k) (-2))) 75 (fun M1 => zFr zMs M M1)) := by
  refine zK_of (ls0 := [zr 58, zi k, (3, 0), (3, 0), (3, 0)]) (by decide) rfl (by decide) rfl (Nat.le_of_ble_eq_true rfl) ?_
  obtain ⟨hS, hW, hU, hh⟩ := id hR
  have hn := hW.1
  refine zV_iload_n (pc := 0) (i := 1) dX10_year_0 rfl rfl ?_
  refine zV_i2l (pc := 1) dX10_year_1 (by omega) ?_
  refine zV_lconst0 (pc := 2) dX10_year_2 ?_
  refine zV_ldc2 (pc := 3) dX10_year_3 kiX10_365 ?_
  refine zV_isp (pc := 6) dX10_year_6 klX10_76 mX10_in rfl ⟨Nat.zero_le _, Nat.zero_le _⟩ (kX10_in (by omega) (by omega) (by omega)) rfl rfl (Nat.le_of_ble_eq_true rfl) ?_
  refine zV_if_neb (pc := 9) (tgt := 15) dX10_year_9 (by decide) (fun c_9 => ?_) (fun c_9 => ?_)
  · refine zV_aload_n (pc := 15) (i := 0) dX10_year_15 rfl rfl ?_
    refine zV_ivq (pc := 16) (ci := 10) dX10_year_16 klX10_367 mX10_spends ⟨by decide, rfl⟩ rfl ⟨Nat.zero_le _, Nat.zero_le _⟩ (kX10_spends hR) (zOb_of rfl) rfl rfl (Nat.le_of_ble_eq_true rfl) (fun M1 q1 => ?_)
    obtain ⟨hL, hc0, f1⟩ := q1
    have hS1 := (hR.fr f1).1
    have h6 : ∀ d : Int, 0 ≤ d → d < 400 → 0 ≤ zfm M d ∧ zfm M d < 64 := fun e _ _ => zfm_r hn e
    have hc : ∀ d : Int, 0 ≤ d → d < 400 → M1 68 d = (zkm M tp z (zfm M)) d ∧ 0 ≤ (zkm M tp z (zfm M)) d ∧ (zkm M tp z (zfm M)) d ≤ 1300 := fun d d0 d1 => ⟨hc0 d d0 d1, zkm_r hR.2.1 tp z (zfm M) d⟩
    have hfw := zfw_r (zwk (zfm M)) 56
    have hfc := zfw_r (zkm M tp z (zfm M)) 399
    refine zV_istore_n (pc := 19) (i := 2) dX10_year_19 rfl rfl ?_
    try dsimp only [List.set_cons_succ, List.set_cons_zero]
    refine zV_iload_n (pc := 20) (i := 1) dX10_year_20 rfl rfl ?_
    refine zV_iconst (pc := 21) dX10_year_21 ?_
    refine zV_icmp_ge (pc := 22) (tgt := 39) dX10_year_22 (by decide) (by omega) (fun c_22 => ?_) (fun c_22 => ?_)
    · refine zV_iload_n (pc := 39) (i := 1) dX10_year_39 rfl rfl ?_
      refine zV_iconst (pc := 40) dX10_year_40 ?_
      refine zV_icmp_ge (pc := 41) (tgt := 63) dX10_year_41 (by decide) (by omega) (fun c_41 => ?_) (fun c_41 => ?_)
      · refine zV_iconst (pc := 63) dX10_year_63 ?_
        refine zV_istore_n (pc := 64) (i := 3) dX10_year_64 rfl rfl ?_
        try dsimp only [List.set_cons_succ, List.set_cons_zero]
        refine zV_iload_n (pc := 65) (i := 1) dX10_year_65 rfl rfl ?_
        refine zV_bipush (pc := 66) dX10_year_66 (by decide) ?_
        refine zV_icmp_ge (pc := 68) (tgt := 123) dX10_year_68 (by decide) (by omega) (fun c_68 => ?_) (fun c_68 => ?_)
        · refine zV_iconst (pc := 123) dX10_year_123 ?_
          refine zV_istore (pc := 124) dX10_year_124 rfl ?_
          try dsimp only [List.set_cons_succ, List.set_cons_zero]
          refine kX10_ydL hS1 (c := (zkm M tp z (zfm M))) hc 399 1 0 (by omega) (by omega) rfl (fun d hd => ?_)
          refine zV_iload_n (pc := 163) (i := 1) dX10_year_163 rfl rfl ?_
          refine zV_bipush (pc := 164) dX10_year_164 (by decide) ?_
          refine zV_icmp_ne (pc := 166) (tgt := 173) dX10_year_166 (by decide) (by omega) (fun c_166 => ?_) (fun c_166 => ?_)
          · refine zV_aload_n (pc := 173) (i := 0) dX10_year_173 rfl rfl ?_
            refine zV_get (pc := 174) (j := 30) dX10_year_174 flX10_41 (zOb_of rfl) rfl hS1.e58_30 ?_
            refine zV_iload_n (pc := 177) (i := 3) dX10_year_177 rfl rfl ?_
            refine zV_iald (pc := 178) dX10_year_178 (zAr_of rfl : zAr 75 68 0 400) (by omega) (hc (zfw (zkm M tp z (zfm M)) 399) (by omega) (by omega)).1 ?_
            refine zV_iret (pc := 179) dX10_year_179 trivial ⟨Nat.zero_le _, Nat.zero_le _⟩ ?_
            first
              | (refine ⟨congrArg (fun x => some (zi x)) (Eq.trans ?_ (zif_t c_9).symm), rfl, f1⟩; unfold zym; rw [if_neg (by omega), if_neg (by omega), if_neg (by omega), if_neg (by omega), if_neg (by omega), if_neg (by omega), if_pos (by omega)])
              | (refine ⟨congrArg (fun x => some (zi x)) (Eq.trans ?_ (zif_t c_9).symm), rfl, f1⟩; unfold zym; rw [if_neg (by omega), if_neg (by omega), if_neg (by omega), if_neg (by omega), if_neg (by omega), if_neg (by omega), if_neg (by omega)])
          · refine zV_iload_n (pc := 169) (i := 3) dX10_year_169 rfl rfl ?_
            refine zV_goto (pc := 170) (tgt := 179) dX10_year_170 (by decide) ?_
            refine zV_iret (pc := 179) dX10_year_179 trivial ⟨Nat.zero_le _, Nat.zero_le _⟩ ?_
            first
              | (refine ⟨congrArg (fun x => some (zi x)) (Eq.trans ?_ (zif_t c_9).symm), rfl, f1⟩; unfold zym; rw [if_neg (by omega), if_neg (by omega), if_neg (by omega), if_neg (by omega), if_neg (by omega), if_neg (by omega), if_pos (by omega)])
              | (refine ⟨congrArg (fun x => some (zi x)) (Eq.trans ?_ (zif_t c_9).symm), rfl, f1⟩; unfold zym; rw [if_neg (by omega), if_neg (by omega), if_neg (by omega), if_neg (by omega), if_neg (by omega), if_neg (by omega), if_neg (by omega)])
        · refine zV_iconst (pc := 71) dX10_year_71 ?_
          refine zV_istore (pc := 72) dX10_year_72 rfl ?_
          try dsimp only [List.set_cons_succ, List.set_cons_zero]
          refine kX10_ywL hS1 hL h6 56 1 0 (by omega) (by omega) rfl (fun v hv => ?_)
          refine zV_iload_n (pc := 108) (i := 1) dX10_year_108 rfl rfl ?_
          refine zV_iconst (pc := 109) dX10_year_109 ?_
          refine zV_icmp_ne (pc := 110) (tgt := 117) dX10_year_110 (by decide) (by omega) (fun c_110 => ?_) (fun c_110 => ?_)
          · refine zV_aload_n (pc := 117) (i := 0) dX10_year_117 rfl rfl ?_
            refine zV_iload_n (pc := 118) (i := 3) dX10_year_118 rfl rfl ?_
            refine zV_ivp (pc := 119) (ci := 10) dX10_year_119 klX10_376 mX10_inWeek ⟨by decide, rfl⟩ rfl ⟨Nat.zero_le _, Nat.zero_le _⟩ (kX10_inWeek hS1 hL h6 (by omega)) (zOb_of rfl) rfl rfl (Nat.le_of_ble_eq_true rfl) ?_
            refine zV_iret (pc := 122) dX10_year_122 trivial ⟨Nat.zero_le _, Nat.zero_le _⟩ ?_
            first
              | (refine ⟨congrArg (fun x => some (zi x)) (Eq.trans ?_ (zif_t c_9).symm), rfl, f1⟩; unfold zym; rw [if_neg (by omega), if_neg (by omega), if_neg (by omega), if_neg (by omega), if_pos (by omega)])
              | (refine ⟨congrArg (fun x => some (zi x)) (Eq.trans ?_ (zif_t c_9).symm), rfl, f1⟩; unfold zym; rw [if_neg (by omega), if_neg (by omega), if_neg (by omega), if_neg (by omega), if_neg (by omega), if_pos (by omega)])
          · refine zV_iload_n (pc := 113) (i := 3) dX10_year_113 rfl rfl ?_
            refine zV_goto (pc := 114) (tgt := 122) dX10_year_114 (by decide) ?_
            refine zV_iret (pc := 122) dX10_year_122 trivial ⟨Nat.zero_le _, Nat.zero_le _⟩ ?_
            first
              | (refine ⟨congrArg (fun x => some (zi x)) (Eq.trans ?_ (zif_t c_9).symm), rfl, f1⟩; unfold zym; rw [if_neg (by omega), if_neg (by omega), if_neg (by omega), if_neg (by omega), if_pos (by omega)])
              | (refine ⟨congrArg (fun x => some (zi x)) (Eq.trans ?_ (zif_t c_9).symm), rfl, f1⟩; unfold zym; rw [if_neg (by omega), if_neg (by omega), if_neg (by omega), if_neg (by omega), if_neg (by omega), if_pos (by omega)])
      · refine zV_aload_n (pc := 44) (i := 0) dX10_year_44 rfl rfl ?_
        refine zV_ivq (pc := 45) (ci := 10) dX10_year_45 klX10_373 mX10_longestRest ⟨by decide, rfl⟩ rfl ⟨Nat.zero_le _, Nat.zero_le _⟩ (kX10_longestRest hS1 hL h6) (zOb_of rfl) rfl rfl (Nat.le_of_ble_eq_true rfl) (fun M2 q2 => ?_)
        refine zV_istore_n (pc := 48) (i := 3) dX10_year_48 rfl rfl ?_
        try dsimp only [List.set_cons_succ, List.set_cons_zero]
        refine zV_iload_n (pc := 49) (i := 1) dX10_year_49 rfl rfl ?_
        refine zV_iconst (pc := 50) dX10_year_50 ?_
        refine zV_icmp_ne (pc := 51) (tgt := 58) dX10_year_51 (by decide) (by omega) (fun c_51 => ?_) (fun c_51 => ?_)
        · refine zV_aload_n (pc := 58) (i := 0) dX10_year_58 rfl rfl ?_
          refine zV_get (pc := 59) (j := 31) dX10_year_59 flX10_362 (zOb_of rfl) rfl q2.1 ?_
          refine zV_iret (pc := 62) dX10_year_62 trivial ⟨Nat.zero_le _, Nat.zero_le _⟩ ?_
          first
            | (refine ⟨congrArg (fun x => some (zi x)) (Eq.trans ?_ (zif_t c_9).symm), rfl, f1.tr (q2.2.mono (fun a j y => by unfold zMs; omega))⟩; unfold zym; rw [if_neg (by omega), if_neg (by omega), if_pos (by omega)])
            | (refine ⟨congrArg (fun x => some (zi x)) (Eq.trans ?_ (zif_t c_9).symm), rfl, f1.tr (q2.2.mono (fun a j y => by unfold zMs; omega))⟩; unfold zym; rw [if_neg (by omega), if_neg (by omega), if_neg (by omega), if_pos (by omega)])
        · refine zV_iload_n (pc := 54) (i := 3) dX10_year_54 rfl rfl ?_
          refine zV_goto (pc := 55) (tgt := 62) dX10_year_55 (by decide) ?_
          refine zV_iret (pc := 62) dX10_year_62 trivial ⟨Nat.zero_le _, Nat.zero_le _⟩ ?_
          first
            | (refine ⟨congrArg (fun x => some (zi x)) (Eq.trans ?_ (zif_t c_9).symm), rfl, f1.tr (q2.2.mono (fun a j y => by unfold zMs; omega))⟩; unfold zym; rw [if_neg (by omega), if_neg (by omega), if_pos (by omega)])
            | (refine ⟨congrArg (fun x => some (zi x)) (Eq.trans ?_ (zif_t c_9).symm), rfl, f1.tr (q2.2.mono (fun a j y => by unfold zMs; omega))⟩; unfold zym; rw [if_neg (by omega), if_neg (by omega), if_neg (by omega), if_pos (by omega)])
    · refine zV_iload_n (pc := 25) (i := 1) dX10_year_25 rfl rfl ?_
      refine zV_if_ne (pc := 26) (tgt := 33) dX10_year_26 (by decide) (by omega) (fun c_26 => ?_) (fun c_26 => ?_)
      · refine zV_aload_n (pc := 33) (i := 0) dX10_year_33 rfl rfl ?_
        refine zV_iload_n (pc := 34) (i := 1) dX10_year_34 rfl rfl ?_
        refine zV_ivp (pc := 35) (ci := 10) dX10_year_35 klX10_370 mX10_daysOf ⟨by decide, rfl⟩ rfl ⟨Nat.zero_le _, Nat.zero_le _⟩ (kX10_daysOf hS1 hL h6 (by omega)) (zOb_of rfl) rfl rfl (Nat.le_of_ble_eq_true rfl) ?_
        refine zV_iret (pc := 38) dX10_year_38 trivial ⟨Nat.zero_le _, Nat.zero_le _⟩ ?_
        first
          | (refine ⟨congrArg (fun x => some (zi x)) (Eq.trans ?_ (zif_t c_9).symm), rfl, f1⟩; unfold zym; rw [if_pos (by omega)])
          | (refine ⟨congrArg (fun x => some (zi x)) (Eq.trans ?_ (zif_t c_9).symm), rfl, f1⟩; unfold zym; rw [if_neg (by omega), if_pos (by omega)])
      · refine zV_iload_n (pc := 29) (i := 2) dX10_year_29 rfl rfl ?_
        refine zV_goto (pc := 30) (tgt := 38) dX10_year_30 (by decide) ?_
        refine zV_iret (pc := 38) dX10_year_38 trivial ⟨Nat.zero_le _, Nat.zero_le _⟩ ?_
        first
          | (refine ⟨congrArg (fun x => some (zi x)) (Eq.trans ?_ (zif_t c_9).symm), rfl, f1⟩; unfold zym; rw [if_pos (by omega)])
          | (refine ⟨congrArg (fun x => some (zi x)) (Eq.trans ?_ (zif_t c_9).symm), rfl, f1⟩; unfold zym; rw [if_neg (by omega), if_pos (by omega)])
  · refine zV_bipush (pc := 12) dX10_year_12 (by decide) ?_
    refine zV_iret (pc := 14) dX10_year_14 trivial ⟨Nat.zero_le _, Nat.zero_le _⟩ ?_
    exact ⟨congrArg (fun x => some (zi x)) (zif_f c_9).symm, rfl, zFr.rf⟩
set_option maxRecDepth 20000 in
set_option maxHeartbeats 2000000 in
theorem kX10_draws {tp : Int → Int} {z : Int} (hR : zRo2 M tp z) {s : Int} : zK g yX10_draws xX10_draws [zr 58, zi s] 75 M (zPq (zi (zsum (zkm M tp z (zfh M (zdh s))) 400)) 75 (fun M1 => zLv M1 (zfh M (zdh s)) ∧ zFr zMs M M1)) := by
  refine zK_of (ls0 := [zr 58, zi s, (3, 0), (3, 0)]) (by decide) rfl (by decide) rfl (Nat.le_of_ble_eq_true rfl) ?_
  refine zV_aload_n (pc := 0) (i := 0) dX10_draws_0 rfl rfl ?_
  refine zV_get (pc := 1) (j := 7) dX10_draws_1 flX10_96 (zOb_of rfl) rfl rfl ?_
  refine zV_istore_n (pc := 4) (i := 2) dX10_draws_4 rfl rfl ?_
  try dsimp only [List.set_cons_succ, List.set_cons_zero]
  refine zV_aload_n (pc := 5) (i := 0) dX10_draws_5 rfl rfl ?_
  refine zV_iload_n (pc := 6) (i := 1) dX10_draws_6 rfl rfl ?_
  refine zV_ldcw (pc := 7) dX10_draws_7 kiX10_440 ?_
  refine zV_imul (pc := 10) dX10_draws_10 ?_
  refine zV_sipush (pc := 11) dX10_draws_11 (by decide) ?_
  refine zV_iadd (pc := 14) dX10_draws_14 ?_
  refine zV_bipush (pc := 15) dX10_draws_15 (by decide) ?_
  refine zV_iushr (pc := 17) dX10_draws_17 (zot _) ?_
  refine zV_sipush (pc := 18) dX10_draws_18 (by decide) ?_
  refine zV_iremN (pc := 21) dX10_draws_21 (zdh_r0 _) (by decide) ?_
  refine zV_put (pc := 22) (j := 7) dX10_draws_22 flX10_96 rfl (zOb_of rfl) rfl trivial ?_
  change zV g xX10_draws _ (22 + 3) [zr 58, zi s, zi (M 58 7), (3, 0)] [] 75 (zU M 58 7 (zdh s)) 0 0
  refine zV_aload_n (pc := 25) (i := 0) dX10_draws_25 rfl rfl ?_
  refine zV_ivq (pc := 26) (ci := 10) dX10_draws_26 klX10_367 mX10_spends ⟨by decide, rfl⟩ rfl ⟨Nat.zero_le _, Nat.zero_le _⟩ (kX10_spends (hR.h (zdh_r s))) (zOb_of rfl) rfl rfl (Nat.le_of_ble_eq_true rfl) (fun M1 q1 => ?_)
  obtain ⟨hL, hc0, f1⟩ := q1
  rw [zfm_h] at hL
  refine zV_istore_n (pc := 29) (i := 3) dX10_draws_29 rfl rfl ?_
  try dsimp only [List.set_cons_succ, List.set_cons_zero]
  refine zV_aload_n (pc := 30) (i := 0) dX10_draws_30 rfl rfl ?_
  refine zV_iload_n (pc := 31) (i := 2) dX10_draws_31 rfl rfl ?_
  refine zV_put (pc := 32) (j := 7) dX10_draws_32 flX10_96 rfl (zOb_of rfl) rfl trivial ?_
  refine zV_iload_n (pc := 35) (i := 3) dX10_draws_35 rfl rfl ?_
  refine zV_iret (pc := 36) dX10_draws_36 trivial ⟨Nat.zero_le _, Nat.zero_le _⟩ ?_
  refine ⟨?_, rfl, hL.fr (C := fun a j => a = 58 ∧ j = 7) (zFr.rf.up ⟨rfl, rfl⟩) (fun a j y => by omega), f1.back⟩
  rw [zfm_h]
  exact congrArg (fun x => some (zi x)) (zsum_c (fun d _ _ => zkm_h M (zdh s) tp z _ d))
set_option maxRecDepth 20000 in
set_option maxHeartbeats 2000000 in
theorem kX10_drawn {tp : Int → Int} {z : Int} (hR : zRo2 M tp z) {s : Int} : zK g yX10_drawn xX10_drawn [zr 58, zi s] 75 M (zPq (zi (zsum (zkm M tp z (zfh M (zdh s))) 400)) 75 (fun M1 => zFr zMs M M1)) := by
  refine zK_of (ls0 := [zr 58, zi s]) (by decide) rfl (by decide) rfl (Nat.le_of_ble_eq_true rfl) ?_
  refine zV_aload_n (pc := 0) (i := 0) dX10_drawn_0 rfl rfl ?_
  refine zV_iload_n (pc := 1) (i := 1) dX10_drawn_1 rfl rfl ?_
  refine zV_ivq (pc := 2) (ci := 10) dX10_drawn_2 klX10_441 mX10_draws ⟨by decide, rfl⟩ rfl ⟨Nat.zero_le _, Nat.zero_le _⟩ (kX10_draws hR) (zOb_of rfl) rfl rfl (Nat.le_of_ble_eq_true rfl) (fun M1 q1 => ?_)
  refine zV_iret (pc := 5) dX10_drawn_5 trivial ⟨Nat.zero_le _, Nat.zero_le _⟩ ?_
  exact ⟨rfl, rfl, q1.2⟩
set_option maxRecDepth 20000 in
set_option maxHeartbeats 2000000 in
theorem kX10_cmL {a b x0 l0 : Int} : ∀ (k : Nat) (x l : Int) (w8 w9 : zv), l ≤ k → (0 ≤ x ∧ x ≤ 4611686018427387904) → (0 ≤ l ∧ l ≤ 4611686018427387904) → zgc x0 l0 = zgc x l → zV g xX10_common (zPp (zl (zgc x0 l0)) N M) 6 [zl a, (3, 0), zl b, (3, 0), zl x, (3, 0), zl l, (3, 0), w8, w9] [] N M 0 0 := by
  intro k
  induction k with
  | zero =>
    intro x l w8 w9 h0 h1 h2 h3
    have e0 : l = 0 := by omega
    refine zV_lload (pc := 6) dX10_common_6 rfl ?_
    refine zV_lconst0 (pc := 8) dX10_common_8 ?_
    refine zV_lcmp (pc := 9) dX10_common_9 (by omega) ?_
    refine zV_if_eqc (pc := 10) (tgt := 31) dX10_common_10 (by decide) (fun c_10 => ?_) (fun c_10 => absurd e0 c_10)
    refine zV_lload (pc := 31) dX10_common_31 rfl ?_
    refine zV_lret (pc := 33) dX10_common_33 trivial ⟨Nat.zero_le _, Nat.zero_le _⟩ ?_
    rw [e0] at h3
    exact zPl (by rw [h3, zgc_0 h1.1])
  | succ k ih =>
    intro x l w8 w9 h0 h1 h2 h3
    refine zV_lload (pc := 6) dX10_common_6 rfl ?_
    refine zV_lconst0 (pc := 8) dX10_common_8 ?_
    refine zV_lcmp (pc := 9) dX10_common_9 (by omega) ?_
    refine zV_if_eqc (pc := 10) (tgt := 31) dX10_common_10 (by decide) (fun c_10 => ?_) (fun c_10 => ?_)
    · refine zV_lload (pc := 31) dX10_common_31 rfl ?_
      refine zV_lret (pc := 33) dX10_common_33 trivial ⟨Nat.zero_le _, Nat.zero_le _⟩ ?_
      rw [c_10] at h3
      exact zPl (by rw [h3, zgc_0 h1.1])
    · refine zV_lload (pc := 13) dX10_common_13 rfl ?_
      refine zV_lload (pc := 15) dX10_common_15 rfl ?_
      refine zV_lremN (pc := 17) dX10_common_17 (by omega) (by omega) ?_
      refine zV_lstore (pc := 18) dX10_common_18 rfl ?_
      try dsimp only [List.set_cons_succ, List.set_cons_zero]
      refine zV_lload (pc := 20) dX10_common_20 rfl ?_
      refine zV_lstore (pc := 22) dX10_common_22 rfl ?_
      try dsimp only [List.set_cons_succ, List.set_cons_zero]
      refine zV_lload (pc := 24) dX10_common_24 rfl ?_
      refine zV_lstore (pc := 26) dX10_common_26 rfl ?_
      try dsimp only [List.set_cons_succ, List.set_cons_zero]
      refine zV_goto (pc := 28) (tgt := 6) dX10_common_28 (by decide) ?_
      have m1 := Int.emod_lt_of_pos x (b := l) (by omega)
      have m0 := Int.emod_nonneg x (show l ≠ 0 by omega)
      exact ih l (x % l) _ _ (by omega) (by omega) ⟨m0, by omega⟩ (h3.trans (zgc_s h1.1 (by omega)))
set_option maxRecDepth 20000 in
set_option maxHeartbeats 2000000 in
theorem kX10_common {a b : Int} (ha : 0 ≤ a ∧ a ≤ 4611686018427387904) (hb : 0 ≤ b ∧ b ≤ 4611686018427387904) : zK g yX10_common xX10_common [zl a, zl b] N M (zPp (zl (zgc a b)) N M) := by
  refine zK_of (ls0 := [zl a, (3, 0), zl b, (3, 0), (3, 0), (3, 0), (3, 0), (3, 0), (3, 0), (3, 0)]) (by decide) rfl (by decide) rfl (Nat.le_of_ble_eq_true rfl) ?_
  refine zV_lload_n (pc := 0) (i := 0) dX10_common_0 rfl rfl ?_
  refine zV_lstore (pc := 1) dX10_common_1 rfl ?_
  try dsimp only [List.set_cons_succ, List.set_cons_zero]
  refine zV_lload_n (pc := 3) (i := 2) dX10_common_3 rfl rfl ?_
  refine zV_lstore (pc := 4) dX10_common_4 rfl ?_
  try dsimp only [List.set_cons_succ, List.set_cons_zero]
  exact kX10_cmL b.toNat a b _ _ (by omega) ha hb rfl
noncomputable def zchm (M : zM) (s : Int) : Nat → Int := zsum (fun i => zb (zsum (fun d => zb (2 ≤ zpc (zfh M (zdh (s + i)) d))) 400 = 0))
theorem zfh_fr {M M1 : zM} (fr : zFr zMs M M1) (h : Int) : zfh M1 h = zfh M h := by
  funext d
  unfold zfh
  rw [show M1 58 12 = M 58 12 from fr _ _ (by unfold zMs; omega)]
  exact zso_c (fun i _ _ => by rw [zct_e (T := zTm M1) (T' := zTm M) (fun f f0 f1 => zTm_fr fr i f ⟨f0, f1⟩) rfl])
theorem zfh_r {M : zM} (hn : 0 ≤ M 58 12 ∧ M 58 12 ≤ 6) (h d : Int) : 0 ≤ zfh M h d ∧ zfh M h d < 64 := by
  have a := zfm_r (M := zU M 58 7 h) (by rw [zU_j _ _ _ _ (by decide)]; exact hn) d
  rw [zfm_h] at a
  exact a
set_option maxRecDepth 20000 in
set_option maxHeartbeats 2000000 in
theorem kX10_chL {tp : Int → Int} {z : Int} (hR : zRo2 M tp z) {s m k0 : Int} (hm : 1 ≤ m ∧ m ≤ 20) (hk : 0 ≤ k0 ∧ k0 ≤ 1) : ∀ (k : Nat) (i c : Int) (M1 : zM) (w7 : zv), i + k = m → 0 ≤ i → c = zchm M s i.toNat → zFr zMs M M1 → zV g xX10_chance (zPq (zl (if k0 = 0 then zchm M s m.toNat / zgc (zchm M s m.toNat) m else m / zgc (zchm M s m.toNat) m)) 75 (fun M1 => zFr zMs M M1)) 32 [zr 58, zi s, zi m, zi k0, zl c, (3, 0), zi i, w7] [] 75 M1 0 0 := by
  intro k
  induction k with
  | zero =>
    intro i c M1 w7 h0 h1 h2 h3
    have hn := hR.2.1.1
    have hR1 := hR.fr h3
    have hcr := zsum_b (f := fun i => zb (zsum (fun d => zb (2 ≤ zpc (zfh M (zdh (s + i)) d))) 400 = 0)) (m := 1) (n := i.toNat) (fun k _ _ => zb_r _)
    have ei : i = m := by omega
    subst ei
    have hc20 : 0 ≤ c ∧ c ≤ 20 := by rw [h2]; unfold zchm; omega
    have gp := zgc_p (a := c) (b := i) (Or.inr (by omega))
    have gl := zgc_le2 (a := c) (b := i) (by omega)
    refine zV_iload (pc := 32) dX10_chance_32 rfl ?_
    refine zV_iload_n (pc := 34) (i := 2) dX10_chance_34 rfl rfl ?_
    refine zV_icmp_ge (pc := 35) (tgt := 71) dX10_chance_35 (by decide) (by omega) (fun c_35 => ?_) (fun c_35 => absurd (by omega) c_35)
    refine zV_lload (pc := 71) dX10_chance_71 rfl ?_
    refine zV_iload_n (pc := 73) (i := 2) dX10_chance_73 rfl rfl ?_
    refine zV_i2l (pc := 74) dX10_chance_74 (by omega) ?_
    refine zV_isp (pc := 75) dX10_chance_75 klX10_385 mX10_common rfl ⟨Nat.zero_le _, Nat.zero_le _⟩ (kX10_common (by omega) (by omega)) rfl rfl (Nat.le_of_ble_eq_true rfl) ?_
    refine zV_lstore (pc := 78) dX10_chance_78 rfl ?_
    try dsimp only [List.set_cons_succ, List.set_cons_zero]
    refine zV_iload_n (pc := 80) (i := 3) dX10_chance_80 rfl rfl ?_
    refine zV_if_ne (pc := 81) (tgt := 92) dX10_chance_81 (by decide) (by omega) (fun c_81 => ?_) (fun c_81 => ?_)
    · refine zV_iload_n (pc := 92) (i := 2) dX10_chance_92 rfl rfl ?_
      refine zV_i2l (pc := 93) dX10_chance_93 (by omega) ?_
      refine zV_lload (pc := 94) dX10_chance_94 rfl ?_
      refine zV_ldivN (pc := 96) dX10_chance_96 (by omega) (by omega) ?_
      refine zV_lret (pc := 97) dX10_chance_97 trivial ⟨Nat.zero_le _, Nat.zero_le _⟩ ?_
      rw [← h2]
      first
        | exact ⟨by rw [if_pos (by omega)], rfl, h3⟩
        | exact ⟨by rw [if_neg (by omega)], rfl, h3⟩
    · refine zV_lload (pc := 84) dX10_chance_84 rfl ?_
      refine zV_lload (pc := 86) dX10_chance_86 rfl ?_
      refine zV_ldivN (pc := 88) dX10_chance_88 (by omega) (by omega) ?_
      refine zV_goto (pc := 89) (tgt := 97) dX10_chance_89 (by decide) ?_
      refine zV_lret (pc := 97) dX10_chance_97 trivial ⟨Nat.zero_le _, Nat.zero_le _⟩ ?_
      rw [← h2]
      first
        | exact ⟨by rw [if_pos (by omega)], rfl, h3⟩
        | exact ⟨by rw [if_neg (by omega)], rfl, h3⟩
  | succ k ih =>
    intro i c M1 w7 h0 h1 h2 h3
    have hn := hR.2.1.1
    have hR1 := hR.fr h3
    have hcr := zsum_b (f := fun i => zb (zsum (fun d => zb (2 ≤ zpc (zfh M (zdh (s + i)) d))) 400 = 0)) (m := 1) (n := i.toNat) (fun k _ _ => zb_r _)
    refine zV_iload (pc := 32) dX10_chance_32 rfl ?_
    refine zV_iload_n (pc := 34) (i := 2) dX10_chance_34 rfl rfl ?_
    refine zV_icmp_ge (pc := 35) (tgt := 71) dX10_chance_35 (by decide) (by omega) (fun c_35 => absurd c_35 (by omega)) (fun c_35 => ?_)
    refine zV_aload_n (pc := 38) (i := 0) dX10_chance_38 rfl rfl ?_
    refine zV_iload_n (pc := 39) (i := 1) dX10_chance_39 rfl rfl ?_
    refine zV_iload (pc := 40) dX10_chance_40 rfl ?_
    refine zV_iadd (pc := 42) dX10_chance_42 ?_
    refine zV_ivq (pc := 43) (ci := 10) dX10_chance_43 klX10_441 mX10_draws ⟨by decide, rfl⟩ rfl ⟨Nat.zero_le _, Nat.zero_le _⟩ (kX10_draws hR1 (s := s + i)) (zOb_of rfl) rfl rfl (Nat.le_of_ble_eq_true rfl) (fun M2 q2 => ?_)
    obtain ⟨hL, f2⟩ := q2
    rw [zfh_fr h3] at hL
    have f3 := h3.tr f2
    refine zV_pop (pc := 46) dX10_chance_46 (by simp) ?_
    refine zV_lload (pc := 47) dX10_chance_47 rfl ?_
    refine zV_aload_n (pc := 49) (i := 0) dX10_chance_49 rfl rfl ?_
    refine zV_iconst (pc := 50) dX10_chance_50 ?_
    refine zV_ivp (pc := 51) (ci := 10) dX10_chance_51 klX10_370 mX10_daysOf ⟨by decide, rfl⟩ rfl ⟨Nat.zero_le _, Nat.zero_le _⟩ (kX10_daysOf (hR.fr f3).1 hL (fun e _ _ => zfh_r hn _ e) (by decide)) (zOb_of rfl) rfl rfl (Nat.le_of_ble_eq_true rfl) ?_
    have hz := zsum_b (f := fun d => zb (2 ≤ zpc (zfh M (zdh (s + i)) d))) (m := 1) (n := 400) (fun k _ _ => zb_r _)
    generalize hD : zsum (fun d => zb (2 ≤ zpc (zfh M (zdh (s + i)) d))) 400 = D at hz ⊢
    refine zV_if_ne (pc := 54) (tgt := 61) dX10_chance_54 (by decide) (by omega) (fun c_54 => ?_) (fun c_54 => ?_)
    · refine zV_lconst0 (pc := 61) dX10_chance_61 ?_
      refine zV_ladd (pc := 62) dX10_chance_62 ?_
      refine zV_lstore (pc := 63) dX10_chance_63 rfl ?_
      try dsimp only [List.set_cons_succ, List.set_cons_zero]
      refine zV_iinc (pc := 65) dX10_chance_65 rfl rfl ?_
      try dsimp only [List.set_cons_succ, List.set_cons_zero]
      refine zV_goto (pc := 68) (tgt := 32) dX10_chance_68 (by decide) ?_
      first
        | exact ih (i + 1) _ M2 _ (by omega) (by omega) (by rw [h2]; unfold zchm; rw [zsum_n (by omega), hD, zb_t c_54]) f3
        | exact ih (i + 1) _ M2 _ (by omega) (by omega) (by rw [h2]; unfold zchm; rw [zsum_n (by omega), hD, zb_f c_54]) f3
    · refine zV_lconst1 (pc := 57) dX10_chance_57 ?_
      refine zV_goto (pc := 58) (tgt := 62) dX10_chance_58 (by decide) ?_
      refine zV_ladd (pc := 62) dX10_chance_62 ?_
      refine zV_lstore (pc := 63) dX10_chance_63 rfl ?_
      try dsimp only [List.set_cons_succ, List.set_cons_zero]
      refine zV_iinc (pc := 65) dX10_chance_65 rfl rfl ?_
      try dsimp only [List.set_cons_succ, List.set_cons_zero]
      refine zV_goto (pc := 68) (tgt := 32) dX10_chance_68 (by decide) ?_
      first
        | exact ih (i + 1) _ M2 _ (by omega) (by omega) (by rw [h2]; unfold zchm; rw [zsum_n (by omega), hD, zb_t c_54]) f3
        | exact ih (i + 1) _ M2 _ (by omega) (by omega) (by rw [h2]; unfold zchm; rw [zsum_n (by omega), hD, zb_f c_54]) f3
set_option maxRecDepth 20000 in
set_option maxHeartbeats 2000000 in
theorem kX10_chance {tp : Int → Int} {z : Int} (hR : zRo2 M tp z) {s m k : Int} (hm : -2147483648 ≤ m ∧ m ≤ 2147483647) (hk : -2147483648 ≤ k ∧ k ≤ 2147483647) : zK g yX10_chance xX10_chance [zr 58, zi s, zi m, zi k] 75 M (zPq (zl (zif ((1 ≤ m ∧ m ≤ 20) ∧ (0 ≤ k ∧ k ≤ 1)) (if k = 0 then zchm M s m.toNat / zgc (zchm M s m.toNat) m else m / zgc (zchm M s m.toNat) m) (-4611686018427387904))) 75 (fun M1 => zFr zMs M M1)) := by
  refine zK_of (ls0 := [zr 58, zi s, zi m, zi k, (3, 0), (3, 0), (3, 0), (3, 0)]) (by decide) rfl (by decide) rfl (Nat.le_of_ble_eq_true rfl) ?_
  refine zV_iload_n (pc := 0) (i := 2) dX10_chance_0 rfl rfl ?_
  refine zV_i2l (pc := 1) dX10_chance_1 (by omega) ?_
  refine zV_lconst1 (pc := 2) dX10_chance_2 ?_
  refine zV_ldc2 (pc := 3) dX10_chance_3 kiX10_400 ?_
  refine zV_isp (pc := 6) dX10_chance_6 klX10_76 mX10_in rfl ⟨Nat.zero_le _, Nat.zero_le _⟩ (kX10_in (by omega) (by omega) (by omega)) rfl rfl (Nat.le_of_ble_eq_true rfl) ?_
  refine zV_if_eqb (pc := 9) (tgt := 22) dX10_chance_9 (by decide) (fun c_9 => ?_) (fun c_9 => ?_)
  · refine zV_ldc2 (pc := 22) dX10_chance_22 kiX10_395 ?_
    refine zV_lret (pc := 25) dX10_chance_25 trivial ⟨Nat.zero_le _, Nat.zero_le _⟩ ?_
    first
      | exact ⟨by rw [zif_f (fun q => c_9 q.1)], rfl, zFr.rf⟩
      | exact ⟨by rw [zif_f (fun q => c_19 q.2)], rfl, zFr.rf⟩
  · refine zV_iload_n (pc := 12) (i := 3) dX10_chance_12 rfl rfl ?_
    refine zV_i2l (pc := 13) dX10_chance_13 (by omega) ?_
    refine zV_lconst0 (pc := 14) dX10_chance_14 ?_
    refine zV_lconst1 (pc := 15) dX10_chance_15 ?_
    refine zV_isp (pc := 16) dX10_chance_16 klX10_76 mX10_in rfl ⟨Nat.zero_le _, Nat.zero_le _⟩ (kX10_in (by omega) (by omega) (by omega)) rfl rfl (Nat.le_of_ble_eq_true rfl) ?_
    refine zV_if_neb (pc := 19) (tgt := 26) dX10_chance_19 (by decide) (fun c_19 => ?_) (fun c_19 => ?_)
    · refine zV_lconst0 (pc := 26) dX10_chance_26 ?_
      refine zV_lstore (pc := 27) dX10_chance_27 rfl ?_
      try dsimp only [List.set_cons_succ, List.set_cons_zero]
      refine zV_iconst (pc := 29) dX10_chance_29 ?_
      refine zV_istore (pc := 30) dX10_chance_30 rfl ?_
      try dsimp only [List.set_cons_succ, List.set_cons_zero]
      exact (kX10_chL hR c_9 c_19 m.toNat 0 0 M _ (by omega) (by omega) rfl zFr.rf).mono (fun v N9 M9 q => ⟨by rw [zif_t ⟨c_9, c_19⟩]; exact q.1, q.2⟩)
    · refine zV_ldc2 (pc := 22) dX10_chance_22 kiX10_395 ?_
      refine zV_lret (pc := 25) dX10_chance_25 trivial ⟨Nat.zero_le _, Nat.zero_le _⟩ ?_
      first
        | exact ⟨by rw [zif_f (fun q => c_9 q.1)], rfl, zFr.rf⟩
        | exact ⟨by rw [zif_f (fun q => c_19 q.2)], rfl, zFr.rf⟩
set_option maxRecDepth 20000 in
set_option maxHeartbeats 2000000 in
theorem kX10_fuL (hS : zSt M) (hW : zWm M) {k0 : Int} (hk : 0 ≤ k0 ∧ k0 ≤ 1) : ∀ (k : Nat) (i a b : Int) (w7 w8 : zv), i + k = M 58 12 → 0 ≤ i → a = (zfb (fun i => zTm M i 2) i.toNat).1 → b = (zfb (fun i => zTm M i 2) i.toNat).2 → zV g xX10_full (zPp (zl (if k0 = 0 then (zfb (fun i => zTm M i 2) (M 58 12).toNat).1 else (zfb (fun i => zTm M i 2) (M 58 12).toNat).2)) 75 M) 22 [zr 58, zi k0, zl a, (3, 0), zl b, (3, 0), zi i, w7, w8] [] 75 M 0 0 := by
  intro k
  induction k with
  | zero =>
    intro i a b w7 w8 h0 h1 h2 h3
    have hn := hW.1
    have hz := zfb_r (fun i => zTm M i 2) i.toNat (fun j j0 j1 => (hW.2 j j0 (by omega)).2.2.1)
    have h60 : (60 : Int) ^ i.toNat ≤ 46656000000 := by
      rcases (show i = 0 ∨ i = 1 ∨ i = 2 ∨ i = 3 ∨ i = 4 ∨ i = 5 ∨ i = 6 by omega) with e | e | e | e | e | e | e <;> rw [e] <;> decide
    have h61 : (i.toNat : Int) * 60 ^ i.toNat ≤ 279936000000 := by
      rcases (show i = 0 ∨ i = 1 ∨ i = 2 ∨ i = 3 ∨ i = 4 ∨ i = 5 ∨ i = 6 by omega) with e | e | e | e | e | e | e <;> rw [e] <;> decide
    rw [← h2, ← h3] at hz
    refine zV_iload (pc := 22) dX10_full_22 rfl ?_
    refine zV_aload_n (pc := 24) (i := 0) dX10_full_24 rfl rfl ?_
    refine zV_get (pc := 25) (j := 12) dX10_full_25 flX10_73 (zOb_of rfl) rfl rfl ?_
    refine zV_icmp_ge (pc := 28) (tgt := 84) dX10_full_28 (by decide) (by omega) (fun c_28 => ?_) (fun c_28 => absurd (by omega) c_28)
    refine zV_iload_n (pc := 84) (i := 1) dX10_full_84 rfl rfl ?_
    refine zV_if_ne (pc := 85) (tgt := 92) dX10_full_85 (by decide) (by omega) (fun c_85 => ?_) (fun c_85 => ?_)
    · refine zV_lload (pc := 92) dX10_full_92 rfl ?_
      refine zV_lret (pc := 94) dX10_full_94 trivial ⟨Nat.zero_le _, Nat.zero_le _⟩ ?_
      rw [show i = M 58 12 by omega] at h2 h3
      skip
      first
        | exact zPl (by rw [if_pos (by omega)]; exact h2)
        | exact zPl (by rw [if_neg (by omega)]; exact h3)
    · refine zV_lload_n (pc := 88) (i := 2) dX10_full_88 rfl rfl ?_
      refine zV_goto (pc := 89) (tgt := 94) dX10_full_89 (by decide) ?_
      refine zV_lret (pc := 94) dX10_full_94 trivial ⟨Nat.zero_le _, Nat.zero_le _⟩ ?_
      rw [show i = M 58 12 by omega] at h2 h3
      skip
      first
        | exact zPl (by rw [if_pos (by omega)]; exact h2)
        | exact zPl (by rw [if_neg (by omega)]; exact h3)
  | succ k ih =>
    intro i a b w7 w8 h0 h1 h2 h3
    have hn := hW.1
    have hz := zfb_r (fun i => zTm M i 2) i.toNat (fun j j0 j1 => (hW.2 j j0 (by omega)).2.2.1)
    have h60 : (60 : Int) ^ i.toNat ≤ 46656000000 := by
      rcases (show i = 0 ∨ i = 1 ∨ i = 2 ∨ i = 3 ∨ i = 4 ∨ i = 5 ∨ i = 6 by omega) with e | e | e | e | e | e | e <;> rw [e] <;> decide
    have h61 : (i.toNat : Int) * 60 ^ i.toNat ≤ 279936000000 := by
      rcases (show i = 0 ∨ i = 1 ∨ i = 2 ∨ i = 3 ∨ i = 4 ∨ i = 5 ∨ i = 6 by omega) with e | e | e | e | e | e | e <;> rw [e] <;> decide
    rw [← h2, ← h3] at hz
    have hp : 1 ≤ zTm M i 2 ∧ zTm M i 2 ≤ 60 := (hW.2 i h1 (by omega)).2.2.1
    have m1 : a * zTm M i 2 ≤ 279936000000 * 60 := Int.le_trans (Int.mul_le_mul_of_nonneg_left hp.2 hz.1.1) (by omega)
    have m0 : 0 ≤ a * zTm M i 2 := Int.mul_nonneg hz.1.1 (by omega)
    have m2 : b * zTm M i 2 ≤ 46656000000 * 60 := Int.le_trans (Int.mul_le_mul_of_nonneg_left hp.2 (by omega)) (by omega)
    have m3 : 1 * 1 ≤ b * zTm M i 2 := Int.mul_le_mul hz.2.1 hp.1 (by decide) (by omega)
    have gp := zgc_p (a := a * zTm M i 2 + b) (b := b * zTm M i 2) (Or.inr (by omega))
    have gl := zgc_le2 (a := a * zTm M i 2 + b) (b := b * zTm M i 2) (by omega)
    have hnx : zfb (fun i => zTm M i 2) (i + 1).toNat = ((a * zTm M i 2 + b) / zgc (a * zTm M i 2 + b) (b * zTm M i 2), (b * zTm M i 2) / zgc (a * zTm M i 2 + b) (b * zTm M i 2)) := by
      rw [show (i + 1).toNat = i.toNat + 1 by omega, h2, h3]
      show ((_ * zTm M (i.toNat : Int) 2 + _) / zgc (_ * zTm M (i.toNat : Int) 2 + _) (_ * zTm M (i.toNat : Int) 2), (_ * zTm M (i.toNat : Int) 2) / zgc (_ * zTm M (i.toNat : Int) 2 + _) (_ * zTm M (i.toNat : Int) 2)) = _
      rw [Int.toNat_of_nonneg h1]
    refine zV_iload (pc := 22) dX10_full_22 rfl ?_
    refine zV_aload_n (pc := 24) (i := 0) dX10_full_24 rfl rfl ?_
    refine zV_get (pc := 25) (j := 12) dX10_full_25 flX10_73 (zOb_of rfl) rfl rfl ?_
    refine zV_icmp_ge (pc := 28) (tgt := 84) dX10_full_28 (by decide) (by omega) (fun c_28 => absurd c_28 (by omega)) (fun c_28 => ?_)
    refine zV_lload_n (pc := 31) (i := 2) dX10_full_31 rfl rfl ?_
    refine zV_aload_n (pc := 32) (i := 0) dX10_full_32 rfl rfl ?_
    refine zV_get (pc := 33) (j := 10) dX10_full_33 flX10_29 (zOb_of rfl) rfl hS.e58_10 ?_
    refine zV_iload (pc := 36) dX10_full_36 rfl ?_
    refine zV_iald (pc := 38) dX10_full_38 (zAr_of rfl : zAr 75 64 0 6) (by omega) (show M 64 i = zTm M i 2 from rfl) ?_
    refine zV_i2l (pc := 39) dX10_full_39 (by omega) ?_
    refine zV_lmul (pc := 40) dX10_full_40 ?_
    refine zV_lload (pc := 41) dX10_full_41 rfl ?_
    refine zV_ladd (pc := 43) dX10_full_43 ?_
    refine zV_lstore_n (pc := 44) (i := 2) dX10_full_44 rfl rfl ?_
    try dsimp only [List.set_cons_succ, List.set_cons_zero]
    refine zV_lload (pc := 45) dX10_full_45 rfl ?_
    refine zV_aload_n (pc := 47) (i := 0) dX10_full_47 rfl rfl ?_
    refine zV_get (pc := 48) (j := 10) dX10_full_48 flX10_29 (zOb_of rfl) rfl hS.e58_10 ?_
    refine zV_iload (pc := 51) dX10_full_51 rfl ?_
    refine zV_iald (pc := 53) dX10_full_53 (zAr_of rfl : zAr 75 64 0 6) (by omega) (show M 64 i = zTm M i 2 from rfl) ?_
    refine zV_i2l (pc := 54) dX10_full_54 (by omega) ?_
    refine zV_lmul (pc := 55) dX10_full_55 ?_
    refine zV_lstore (pc := 56) dX10_full_56 rfl ?_
    try dsimp only [List.set_cons_succ, List.set_cons_zero]
    refine zV_lload_n (pc := 58) (i := 2) dX10_full_58 rfl rfl ?_
    refine zV_lload (pc := 59) dX10_full_59 rfl ?_
    refine zV_isp (pc := 61) dX10_full_61 klX10_385 mX10_common rfl ⟨Nat.zero_le _, Nat.zero_le _⟩ (kX10_common (by omega) (by omega)) rfl rfl (Nat.le_of_ble_eq_true rfl) ?_
    refine zV_lstore (pc := 64) dX10_full_64 rfl ?_
    try dsimp only [List.set_cons_succ, List.set_cons_zero]
    refine zV_lload_n (pc := 66) (i := 2) dX10_full_66 rfl rfl ?_
    refine zV_lload (pc := 67) dX10_full_67 rfl ?_
    refine zV_ldivN (pc := 69) dX10_full_69 (by omega) (by omega) ?_
    refine zV_lstore_n (pc := 70) (i := 2) dX10_full_70 rfl rfl ?_
    try dsimp only [List.set_cons_succ, List.set_cons_zero]
    refine zV_lload (pc := 71) dX10_full_71 rfl ?_
    refine zV_lload (pc := 73) dX10_full_73 rfl ?_
    refine zV_ldivN (pc := 75) dX10_full_75 (by omega) (by omega) ?_
    refine zV_lstore (pc := 76) dX10_full_76 rfl ?_
    try dsimp only [List.set_cons_succ, List.set_cons_zero]
    refine zV_iinc (pc := 78) dX10_full_78 rfl rfl ?_
    try dsimp only [List.set_cons_succ, List.set_cons_zero]
    refine zV_goto (pc := 81) (tgt := 22) dX10_full_81 (by decide) ?_
    exact ih (i + 1) _ _ _ _ (by omega) (by omega) (by rw [hnx]) (by rw [hnx])
set_option maxRecDepth 20000 in
set_option maxHeartbeats 2000000 in
theorem kX10_full (hS : zSt M) (hW : zWm M) {k : Int} (hk : -2147483648 ≤ k ∧ k ≤ 2147483647) : zK g yX10_full xX10_full [zr 58, zi k] 75 M (zPp (zl (zif (0 ≤ k ∧ k ≤ 1) (if k = 0 then (zfb (fun i => zTm M i 2) (M 58 12).toNat).1 else (zfb (fun i => zTm M i 2) (M 58 12).toNat).2) (-4611686018427387904))) 75 M) := by
  refine zK_of (ls0 := [zr 58, zi k, (3, 0), (3, 0), (3, 0), (3, 0), (3, 0), (3, 0), (3, 0)]) (by decide) rfl (by decide) rfl (Nat.le_of_ble_eq_true rfl) ?_
  refine zV_iload_n (pc := 0) (i := 1) dX10_full_0 rfl rfl ?_
  refine zV_i2l (pc := 1) dX10_full_1 (by omega) ?_
  refine zV_lconst0 (pc := 2) dX10_full_2 ?_
  refine zV_lconst1 (pc := 3) dX10_full_3 ?_
  refine zV_isp (pc := 4) dX10_full_4 klX10_76 mX10_in rfl ⟨Nat.zero_le _, Nat.zero_le _⟩ (kX10_in (by omega) (by omega) (by omega)) rfl rfl (Nat.le_of_ble_eq_true rfl) ?_
  refine zV_if_neb (pc := 7) (tgt := 14) dX10_full_7 (by decide) (fun c_7 => ?_) (fun c_7 => ?_)
  · refine zV_lconst0 (pc := 14) dX10_full_14 ?_
    refine zV_lstore_n (pc := 15) (i := 2) dX10_full_15 rfl rfl ?_
    try dsimp only [List.set_cons_succ, List.set_cons_zero]
    refine zV_lconst1 (pc := 16) dX10_full_16 ?_
    refine zV_lstore (pc := 17) dX10_full_17 rfl ?_
    try dsimp only [List.set_cons_succ, List.set_cons_zero]
    refine zV_iconst (pc := 19) dX10_full_19 ?_
    refine zV_istore (pc := 20) dX10_full_20 rfl ?_
    try dsimp only [List.set_cons_succ, List.set_cons_zero]
    rw [zif_t c_7]
    exact kX10_fuL hS hW c_7 (M 58 12).toNat 0 0 1 _ _ (by have := hW.1; omega) (by omega) rfl rfl
  · refine zV_ldc2 (pc := 10) dX10_full_10 kiX10_395 ?_
    refine zV_lret (pc := 13) dX10_full_13 trivial ⟨Nat.zero_le _, Nat.zero_le _⟩ ?_
    exact zPl (zif_f c_7).symm
end
