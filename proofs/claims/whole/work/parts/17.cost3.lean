/-! THE CLASS: the year's costs, the dearest day, minds, one thing shifted (printed by wip/whole/p17.py) -/
theorem zcost_c {tx tx' : Int → (Int → Int) → Int} {T T' : Int → Int → Int} {n : Nat} {f f' : Int → Int} {d : Int} (h1 : ∀ (k : Int) (i m p r q : Int), tx k (znm d i m p r q) = tx' k (znm d i m p r q)) (h2 : ∀ i j : Int, 0 ≤ i → i < n → T i j = T' i j) (h3 : f d = f' d) (h4 : zra f d.toNat = zra f' d.toNat) : zcost tx T n f d = zcost tx' T' n f' d := by
  unfold zcost
  rw [h3, h4]
  have e : zsum (fun i => zif (zbt (f' d) i) (zsp (T i 0) (T i 1) (tx 0 (znm d i (zpc (f' d)) (T i 2) (zra f' d.toNat) (T i 1)))) 0) n = zsum (fun i => zif (zbt (f' d) i) (zsp (T' i 0) (T' i 1) (tx' 0 (znm d i (zpc (f' d)) (T' i 2) (zra f' d.toNat) (T' i 1)))) 0) n := by
    refine zsum_c (fun i h0 hi => ?_)
    rw [h2 i 0 h0 hi, h2 i 1 h0 hi, h2 i 2 h0 hi, h1]
  rw [e, h1]
theorem zra_c {f f' : Int → Int} : ∀ {k : Nat}, (∀ d : Int, 0 ≤ d → d < k → f d = f' d) → zra f k = zra f' k := by
  intro k
  induction k with
  | zero => intro _; rfl
  | succ k ih =>
    intro h
    show (if f k = 0 then zra f k + 1 else 0) = (if f' k = 0 then zra f' k + 1 else 0)
    rw [h k (by omega) (by omega), ih (fun d h0 h1 => h d h0 (by omega))]
theorem zcs_fr {M M1 : zM} (hW : zWf M) (hU : zRu M) (h : zFr zSc M M1) (f : Int → Int) (d : Int) : zcs M1 f d = zcs M f d := by
  have hA := zAg.of h
  have hn := hW.1
  unfold zcs
  rw [hA.1]
  refine zcost_c (fun k i m p r q => ztx_fr hU h k _) (fun i j h0 h1 => hA.2 i j h0 (by omega)) rfl rfl
theorem zCo.fr {M M1 : zM} {f : Int → Int} (hC : zCo M f) (h : zFr zSx M M1) : zCo M1 f := fun d h0 h1 => (h 57 d (by unfold zSx; omega)).trans (hC d h0 h1)
/-- the first dearest of the first k days -/
noncomputable def zdm (c : Int → Int) : Nat → Int
  | 0 => 0
  | k + 1 => if zdm c k < c k then c k else zdm c k
noncomputable def zdd (c : Int → Int) : Nat → Int
  | 0 => 0
  | k + 1 => if zdm c k < c k then k else zdd c k
theorem zdm_t {c : Int → Int} {d : Int} (h : 0 ≤ d) (hq : zdm c d.toNat < c d) : zdm c (d + 1).toNat = c d ∧ zdd c (d + 1).toNat = d := by
  rw [show (d + 1).toNat = d.toNat + 1 by omega]
  have e : ((d.toNat : Nat) : Int) = d := Int.toNat_of_nonneg h
  have hq' : zdm c d.toNat < c (d.toNat : Int) := by rw [e]; exact hq
  refine ⟨(if_pos hq').trans (by rw [e]), (if_pos hq').trans e⟩
theorem zdm_f {c : Int → Int} {d : Int} (h : 0 ≤ d) (hq : ¬ zdm c d.toNat < c d) : zdm c (d + 1).toNat = zdm c d.toNat ∧ zdd c (d + 1).toNat = zdd c d.toNat := by
  rw [show (d + 1).toNat = d.toNat + 1 by omega]
  have e : ((d.toNat : Nat) : Int) = d := Int.toNat_of_nonneg h
  have hq' : ¬ zdm c d.toNat < c (d.toNat : Int) := by rw [e]; exact hq
  exact ⟨if_neg hq', if_neg hq'⟩
theorem zdm_r {c : Int → Int} {m : Int} (hm : 0 ≤ m) (h : ∀ d, 0 ≤ c d ∧ c d ≤ m) : ∀ k : Nat, 0 ≤ zdm c k ∧ zdm c k ≤ m ∧ 0 ≤ zdd c k ∧ zdd c k ≤ k := by
  intro k
  induction k with
  | zero => exact ⟨Int.le_refl _, hm, Int.le_refl _, Int.le_refl _⟩
  | succ k ih =>
    have h1 := h k
    show 0 ≤ (if zdm c k < c k then c k else zdm c k) ∧ (if zdm c k < c k then c k else zdm c k) ≤ m ∧ 0 ≤ (if zdm c k < c k then (k : Int) else zdd c k) ∧ (if zdm c k < c k then (k : Int) else zdd c k) ≤ ((k + 1 : Nat) : Int)
    split <;> omega
/-- bit t of x becomes q -/
noncomputable def zwb (x t : Int) (q : Prop) : Int := x - x / 2 ^ t.toNat % 2 * 2 ^ t.toNat + zb q * 2 ^ t.toNat
theorem z_clr0 : ∀ n, n < 64 → ∀ t, t < 6 → nI n &&& (nI (2 ^ t) ^^^ (-1)) = nI (n - n / 2 ^ t % 2 * 2 ^ t) ∧ nI (n - n / 2 ^ t % 2 * 2 ^ t) ||| nI (2 ^ t) = nI (n - n / 2 ^ t % 2 * 2 ^ t + 2 ^ t) := by decide +kernel
theorem z_clr {x t : Int} (hx : 0 ≤ x ∧ x < 64) (ht : 0 ≤ t ∧ t < 6) : Int32.ofInt x &&& (Int32.ofInt (2 ^ t.toNat) ^^^ Int32.ofInt (-1)) = Int32.ofInt (x - x / 2 ^ t.toNat % 2 * 2 ^ t.toNat) ∧ Int32.ofInt (x - x / 2 ^ t.toNat % 2 * 2 ^ t.toNat) ||| Int32.ofInt (2 ^ t.toNat) = Int32.ofInt (x - x / 2 ^ t.toNat % 2 * 2 ^ t.toNat + 2 ^ t.toNat) := by
  have h := z_clr0 x.toNat (by omega) t.toNat (by omega)
  have h3 : ((2 ^ t.toNat : Nat) : Int) = (2 : Int) ^ t.toNat := by simp
  have hp := zpw ht
  have e1 : ((x.toNat - x.toNat / 2 ^ t.toNat % 2 * 2 ^ t.toNat : Nat) : Int) = x - x / 2 ^ t.toNat % 2 * 2 ^ t.toNat := by
    have e2 : ((x.toNat / 2 ^ t.toNat % 2 * 2 ^ t.toNat : Nat) : Int) = x / 2 ^ t.toNat % 2 * 2 ^ t.toNat := by
      rw [Int.natCast_mul, Int.natCast_emod, Int.natCast_ediv, Int.toNat_of_nonneg hx.1]
      rfl
    have e3 : x / 2 ^ t.toNat % 2 * 2 ^ t.toNat ≤ x := by
      have h5 := Int.mul_ediv_self_le (x := x) (k := 2 ^ t.toNat) (by omega)
      have h6 : x / 2 ^ t.toNat % 2 ≤ x / 2 ^ t.toNat := by
        have := Int.ediv_nonneg hx.1 (show 0 ≤ (2 : Int) ^ t.toNat by omega)
        omega
      have h7 := Int.mul_le_mul_of_nonneg_right h6 (show 0 ≤ (2 : Int) ^ t.toNat by omega)
      rw [Int.mul_comm (x / 2 ^ t.toNat)] at h7
      omega
    rw [Int.natCast_sub (by omega), e2]
    omega
  rw [zn_o, zn_o, zn_o, zn_o, e1, h3, Int.toNat_of_nonneg hx.1] at h
  rw [show ((x.toNat - x.toNat / 2 ^ t.toNat % 2 * 2 ^ t.toNat + 2 ^ t.toNat : Nat) : Int) = (x - x / 2 ^ t.toNat % 2 * 2 ^ t.toNat) + 2 ^ t.toNat by rw [Int.natCast_add, e1, h3]] at h
  exact h
section
variable {g : zG} {N : Nat} {M : zM}
set_option maxRecDepth 20000 in
set_option maxHeartbeats 2000000 in
theorem kX0_allL (hS : zSt M) {f : Int → Int} (hC : zCo M f) (h6 : ∀ d : Int, 0 ≤ d → d < 400 → 0 ≤ f d ∧ f d < 64) (hW : zWf M) (hU : zRu M) : ∀ (k : Nat) (d c : Int) (M1 : zM), d + k = 400 → 0 ≤ d → c = zsum (zcs M f) d.toNat → zFr zSx M M1 → zV g xX0_allCosts (zPq (zi (zsum (zcs M f) 400)) 75 (fun M1 => zFr zSx M M1)) 4 [zr 52, zi c, zi d] [] 75 M1 0 0 := by
  intro k
  induction k with
  | zero =>
    intro d c M1 h0 h1 h2 h3
    have hF : zFr zSc M M1 := h3.mono (fun _ _ => zSx_c)
    have hS1 : zSt M1 := hS.fr hF zSc_st
    have hW1 : zWf M1 := hW.ag (zAg.of hF)
    have hU1 := (hU.fr hF).1
    have hC1 := hC.fr h3
    have eC := zcs_fr hW hU hF f
    refine zV_iload_n (pc := 4) (i := 2) dX0_allCosts_4 rfl rfl ?_
    refine zV_sipush (pc := 5) dX0_allCosts_5 (by decide) ?_
    refine zV_icmp_ge (pc := 8) (tgt := 25) dX0_allCosts_8 (by decide) (by omega) (fun c_8 => ?_) (fun c_8 => absurd (by omega) c_8)
    refine zV_iload_n (pc := 25) (i := 1) dX0_allCosts_25 rfl rfl ?_
    refine zV_iret (pc := 26) dX0_allCosts_26 trivial ⟨Nat.zero_le _, Nat.zero_le _⟩ ?_
    rw [show d = 400 by omega] at h2
    exact ⟨by rw [h2]; rfl, rfl, h3⟩
  | succ k ih =>
    intro d c M1 h0 h1 h2 h3
    have hF : zFr zSc M M1 := h3.mono (fun _ _ => zSx_c)
    have hS1 : zSt M1 := hS.fr hF zSc_st
    have hW1 : zWf M1 := hW.ag (zAg.of hF)
    have hU1 := (hU.fr hF).1
    have hC1 := hC.fr h3
    have eC := zcs_fr hW hU hF f
    refine zV_iload_n (pc := 4) (i := 2) dX0_allCosts_4 rfl rfl ?_
    refine zV_sipush (pc := 5) dX0_allCosts_5 (by decide) ?_
    refine zV_icmp_ge (pc := 8) (tgt := 25) dX0_allCosts_8 (by decide) (by omega) (fun c_8 => absurd c_8 (by omega)) (fun c_8 => ?_)
    refine zV_iload_n (pc := 11) (i := 1) dX0_allCosts_11 rfl rfl ?_
    refine zV_aload_n (pc := 12) (i := 0) dX0_allCosts_12 rfl rfl ?_
    refine zV_iload_n (pc := 13) (i := 2) dX0_allCosts_13 rfl rfl ?_
    refine zV_ivq (pc := 14) (ci := 0) dX0_allCosts_14 klX0_103 mX0_costsOf ⟨by decide, rfl⟩ rfl ⟨Nat.zero_le _, Nat.zero_le _⟩ (kX0_costsOf hS1 hC1 h6 hW1 hU1 (by omega)) (zOb_of rfl) rfl rfl (Nat.le_of_ble_eq_true rfl) (fun M2 q => ?_)
    rw [eC]
    refine zV_iadd (pc := 17) dX0_allCosts_17 ?_
    refine zV_istore_n (pc := 18) (i := 1) dX0_allCosts_18 rfl rfl ?_
    try dsimp only [List.set_cons_succ, List.set_cons_zero]
    refine zV_iinc (pc := 19) dX0_allCosts_19 rfl rfl ?_
    try dsimp only [List.set_cons_succ, List.set_cons_zero]
    refine zV_goto (pc := 22) (tgt := 4) dX0_allCosts_22 (by decide) ?_
    exact ih (d + 1) _ M2 (by omega) (by omega) (by rw [h2, zsum_n (by omega)]) (h3.tr q)
set_option maxRecDepth 20000 in
set_option maxHeartbeats 2000000 in
theorem kX0_allCosts (hS : zSt M) {f : Int → Int} (hC : zCo M f) (h6 : ∀ d : Int, 0 ≤ d → d < 400 → 0 ≤ f d ∧ f d < 64) (hW : zWf M) (hU : zRu M) : zK g yX0_allCosts xX0_allCosts [zr 52] 75 M (zPq (zi (zsum (zcs M f) 400)) 75 (fun M1 => zFr zSx M M1)) := by
  refine zK_of (ls0 := [zr 52, (3, 0), (3, 0)]) (by decide) rfl (by decide) rfl (Nat.le_of_ble_eq_true rfl) ?_
  have hn := hW.1
  refine zV_iconst (pc := 0) dX0_allCosts_0 ?_
  refine zV_istore_n (pc := 1) (i := 1) dX0_allCosts_1 rfl rfl ?_
  try dsimp only [List.set_cons_succ, List.set_cons_zero]
  refine zV_iconst (pc := 2) dX0_allCosts_2 ?_
  refine zV_istore_n (pc := 3) (i := 2) dX0_allCosts_3 rfl rfl ?_
  try dsimp only [List.set_cons_succ, List.set_cons_zero]
  exact kX0_allL hS hC h6 hW hU 400 0 0 M (by omega) (by omega) rfl zFr.rf
set_option maxRecDepth 20000 in
set_option maxHeartbeats 2000000 in
theorem kX0_dearL (hS : zSt M) {f : Int → Int} (hC : zCo M f) (h6 : ∀ d : Int, 0 ≤ d → d < 400 → 0 ≤ f d ∧ f d < 64) (hW : zWf M) (hU : zRu M) : ∀ (k : Nat) (d a m : Int) (w4 : zv) (M1 : zM), d + k = 400 → 0 ≤ d → a = zdd (zcs M f) d.toNat → zFr zSx M M1 → m = zdm (zcs M f) d.toNat → zV g xX0_dearestDay (zPq (zi (zdd (zcs M f) 400)) 75 (fun M1 => zFr zSx M M1)) 6 [zr 52, zi a, zi m, zi d, w4] [] 75 M1 0 0 := by
  intro k
  induction k with
  | zero =>
    intro d a m w4 M1 h0 h1 h2 h3 h4
    have hF : zFr zSc M M1 := h3.mono (fun _ _ => zSx_c)
    have hS1 : zSt M1 := hS.fr hF zSc_st
    have hW1 : zWf M1 := hW.ag (zAg.of hF)
    have hU1 := (hU.fr hF).1
    have hC1 := hC.fr h3
    have eC := zcs_fr hW hU hF f
    refine zV_iload_n (pc := 6) (i := 3) dX0_dearestDay_6 rfl rfl ?_
    refine zV_sipush (pc := 7) dX0_dearestDay_7 (by decide) ?_
    refine zV_icmp_ge (pc := 10) (tgt := 37) dX0_dearestDay_10 (by decide) (by omega) (fun c_10 => ?_) (fun c_10 => absurd (by omega) c_10)
    refine zV_iload_n (pc := 37) (i := 1) dX0_dearestDay_37 rfl rfl ?_
    refine zV_iret (pc := 38) dX0_dearestDay_38 trivial ⟨Nat.zero_le _, Nat.zero_le _⟩ ?_
    rw [show d = 400 by omega] at h2
    exact ⟨by rw [h2]; rfl, rfl, h3⟩
  | succ k ih =>
    intro d a m w4 M1 h0 h1 h2 h3 h4
    have hF : zFr zSc M M1 := h3.mono (fun _ _ => zSx_c)
    have hS1 : zSt M1 := hS.fr hF zSc_st
    have hW1 : zWf M1 := hW.ag (zAg.of hF)
    have hU1 := (hU.fr hF).1
    have hC1 := hC.fr h3
    have eC := zcs_fr hW hU hF f
    refine zV_iload_n (pc := 6) (i := 3) dX0_dearestDay_6 rfl rfl ?_
    refine zV_sipush (pc := 7) dX0_dearestDay_7 (by decide) ?_
    refine zV_icmp_ge (pc := 10) (tgt := 37) dX0_dearestDay_10 (by decide) (by omega) (fun c_10 => absurd c_10 (by omega)) (fun c_10 => ?_)
    refine zV_aload_n (pc := 13) (i := 0) dX0_dearestDay_13 rfl rfl ?_
    refine zV_iload_n (pc := 14) (i := 3) dX0_dearestDay_14 rfl rfl ?_
    refine zV_ivq (pc := 15) (ci := 0) dX0_dearestDay_15 klX0_103 mX0_costsOf ⟨by decide, rfl⟩ rfl ⟨Nat.zero_le _, Nat.zero_le _⟩ (kX0_costsOf hS1 hC1 h6 hW1 hU1 (by omega)) (zOb_of rfl) rfl rfl (Nat.le_of_ble_eq_true rfl) (fun M2 q => ?_)
    rw [eC]
    refine zV_istore (pc := 18) dX0_dearestDay_18 rfl ?_
    try dsimp only [List.set_cons_succ, List.set_cons_zero]
    refine zV_iload (pc := 20) dX0_dearestDay_20 rfl ?_
    refine zV_iload_n (pc := 22) (i := 2) dX0_dearestDay_22 rfl rfl ?_
    refine zV_icmp_le (pc := 23) (tgt := 31) dX0_dearestDay_23 (by decide) (by have := zcs_r hW f d; have := zdm_r (by decide) (zcs_r hW f) d.toNat; omega) (fun c_23 => ?_) (fun c_23 => ?_)
    · refine zV_iinc (pc := 31) dX0_dearestDay_31 rfl rfl ?_
      refine zV_goto (pc := 34) (tgt := 6) dX0_dearestDay_34 (by decide) ?_
      first
        | (have hq := zdm_t (c := zcs M f) (d := d) (by omega) (by omega); exact ih (d + 1) _ _ _ M2 (by omega) (by omega) (by rw [hq.2]) (h3.tr q) (by rw [hq.1]))
        | (have hq := zdm_f (c := zcs M f) (d := d) (by omega) (by omega); exact ih (d + 1) _ _ _ M2 (by omega) (by omega) (by rw [hq.2, h2]) (h3.tr q) (by rw [hq.1, h4]))
    · refine zV_iload (pc := 26) dX0_dearestDay_26 rfl ?_
      refine zV_istore_n (pc := 28) (i := 2) dX0_dearestDay_28 rfl rfl ?_
      try dsimp only [List.set_cons_succ, List.set_cons_zero]
      refine zV_iload_n (pc := 29) (i := 3) dX0_dearestDay_29 rfl rfl ?_
      refine zV_istore_n (pc := 30) (i := 1) dX0_dearestDay_30 rfl rfl ?_
      try dsimp only [List.set_cons_succ, List.set_cons_zero]
      refine zV_iinc (pc := 31) dX0_dearestDay_31 rfl rfl ?_
      refine zV_goto (pc := 34) (tgt := 6) dX0_dearestDay_34 (by decide) ?_
      first
        | (have hq := zdm_t (c := zcs M f) (d := d) (by omega) (by omega); exact ih (d + 1) _ _ _ M2 (by omega) (by omega) (by rw [hq.2]) (h3.tr q) (by rw [hq.1]))
        | (have hq := zdm_f (c := zcs M f) (d := d) (by omega) (by omega); exact ih (d + 1) _ _ _ M2 (by omega) (by omega) (by rw [hq.2, h2]) (h3.tr q) (by rw [hq.1, h4]))
set_option maxRecDepth 20000 in
set_option maxHeartbeats 2000000 in
theorem kX0_dearestDay (hS : zSt M) {f : Int → Int} (hC : zCo M f) (h6 : ∀ d : Int, 0 ≤ d → d < 400 → 0 ≤ f d ∧ f d < 64) (hW : zWf M) (hU : zRu M) : zK g yX0_dearestDay xX0_dearestDay [zr 52] 75 M (zPq (zi (zdd (zcs M f) 400)) 75 (fun M1 => zFr zSx M M1)) := by
  refine zK_of (ls0 := [zr 52, (3, 0), (3, 0), (3, 0), (3, 0)]) (by decide) rfl (by decide) rfl (Nat.le_of_ble_eq_true rfl) ?_
  have hn := hW.1
  refine zV_iconst (pc := 0) dX0_dearestDay_0 ?_
  refine zV_istore_n (pc := 1) (i := 1) dX0_dearestDay_1 rfl rfl ?_
  try dsimp only [List.set_cons_succ, List.set_cons_zero]
  refine zV_iconst (pc := 2) dX0_dearestDay_2 ?_
  refine zV_istore_n (pc := 3) (i := 2) dX0_dearestDay_3 rfl rfl ?_
  try dsimp only [List.set_cons_succ, List.set_cons_zero]
  refine zV_iconst (pc := 4) dX0_dearestDay_4 ?_
  refine zV_istore_n (pc := 5) (i := 3) dX0_dearestDay_5 rfl rfl ?_
  try dsimp only [List.set_cons_succ, List.set_cons_zero]
  exact kX0_dearL hS hC h6 hW hU 400 0 0 0 _ M (by omega) (by omega) rfl zFr.rf rfl
set_option maxRecDepth 20000 in
set_option maxHeartbeats 2000000 in
theorem kX0_mindsOf (hS : zSt M) (hW : zWf M) (hU : zRu M) {t s : Int} (ht : 0 ≤ t ∧ t < M 1 1) (hs : 0 ≤ s ∧ s ≤ 100) : zK g yX0_mindsOf xX0_mindsOf [zr 52, zi t, zi s] 75 M (zPq (zi (ztx M 2 (znm 0 t 0 (zTc M t 2) s (zTc M t 1)))) 75 (fun M1 => zFr zSx M M1)) := by
  refine zK_of (ls0 := [zr 52, zi t, zi s, (3, 0)]) (by decide) rfl (by decide) rfl (Nat.le_of_ble_eq_true rfl) ?_
  have hn := hW.1
  refine zV_aload_n (pc := 0) (i := 0) dX0_mindsOf_0 rfl rfl ?_
  refine zV_get (pc := 1) (j := 0) dX0_mindsOf_1 flX0_29 (zOb_of rfl) rfl hS.e52_0 ?_
  refine zV_iload_n (pc := 4) (i := 1) dX0_mindsOf_4 rfl rfl ?_
  refine zV_ivp (pc := 5) (ci := 5) dX0_mindsOf_5 klX0_46 mX5_has ⟨by decide, rfl⟩ rfl ⟨Nat.zero_le _, Nat.zero_le _⟩ (kX5_has hS hW.1 (by omega)) (zOb_of rfl) rfl rfl (Nat.le_of_ble_eq_true rfl) ?_
  refine zV_if_neb (pc := 8) (tgt := 13) dX0_mindsOf_8 (by decide) (fun c_8 => ?_) (fun c_8 => absurd ht c_8)
  refine zV_aload_n (pc := 13) (i := 0) dX0_mindsOf_13 rfl rfl ?_
  refine zV_get (pc := 14) (j := 0) dX0_mindsOf_14 flX0_29 (zOb_of rfl) rfl hS.e52_0 ?_
  refine zV_get (pc := 17) (j := 0) dX0_mindsOf_17 flX0_50 (zOb_of rfl) rfl hS.e1_0 ?_
  refine zV_iload_n (pc := 20) (i := 1) dX0_mindsOf_20 rfl rfl ?_
  refine zV_aald (pc := 21) dX0_mindsOf_21 (zAr_of rfl : zAr 75 2 2 6) ⟨rfl, rfl⟩ (by omega) (hS.th (by omega)) ?_
  refine zV_astore_n (pc := 22) (i := 3) dX0_mindsOf_22 rfl rfl ?_
  try dsimp only [List.set_cons_succ, List.set_cons_zero]
  refine zV_aload_n (pc := 23) (i := 0) dX0_mindsOf_23 rfl rfl ?_
  refine zV_get (pc := 24) (j := 2) dX0_mindsOf_24 flX0_12 (zOb_of rfl) rfl hS.e52_2 ?_
  refine zV_iconst (pc := 27) dX0_mindsOf_27 ?_
  refine zV_iconst (pc := 28) dX0_mindsOf_28 ?_
  refine zV_iload_n (pc := 29) (i := 2) dX0_mindsOf_29 rfl rfl ?_
  refine zV_ivn (pc := 30) (ci := 4) dX0_mindsOf_30 klX0_78 mX4_nameDay ⟨by decide, rfl⟩ rfl ⟨Nat.zero_le _, Nat.zero_le _⟩ (kX4_nameDay hS (x := 0) (y := 0) (z := s) (by omega) (by omega) (by omega)) (zOb_of rfl) rfl rfl (Nat.le_of_ble_eq_true rfl) (fun M1 q => ?_)
  obtain ⟨q1, q2, q3, q4, q5⟩ := q
  have f1 : zFr zSx M M1 := q5.mono (fun a j e => Or.inl e)
  have hS1 : zSt M1 := hS.fr f1 zSx_st
  have hA1 := zAg.of (f1.mono (fun _ _ => zSx_c))
  have g1 := hA1.2 t 1 (by omega) (by omega)
  have g2 := hA1.2 t 2 (by omega) (by omega)
  have hth := hW.2 t (by omega) (by omega)
  unfold zTh at hth
  refine zV_aload_n (pc := 33) (i := 0) dX0_mindsOf_33 rfl rfl ?_
  refine zV_get (pc := 34) (j := 2) dX0_mindsOf_34 flX0_12 (zOb_of rfl) rfl hS1.e52_2 ?_
  refine zV_iload_n (pc := 37) (i := 1) dX0_mindsOf_37 rfl rfl ?_
  refine zV_aload_n (pc := 38) (i := 3) dX0_mindsOf_38 rfl rfl ?_
  refine zV_get (pc := 39) (j := 2) dX0_mindsOf_39 flX0_85 (zOb_th (by omega)) rfl rfl ?_
  refine zV_aload_n (pc := 42) (i := 3) dX0_mindsOf_42 rfl rfl ?_
  refine zV_get (pc := 43) (j := 1) dX0_mindsOf_43 flX0_88 (zOb_th (by omega)) rfl rfl ?_
  refine zV_ivn (pc := 46) (ci := 4) dX0_mindsOf_46 klX0_91 mX4_nameThing ⟨by decide, rfl⟩ rfl ⟨Nat.zero_le _, Nat.zero_le _⟩ (kX4_nameThing hS1 (by omega) (by omega) (by omega)) (zOb_of rfl) rfl rfl (Nat.le_of_ble_eq_true rfl) (fun M2 r => ?_)
  obtain ⟨r1, r2, r3, r4, r5⟩ := r
  have f2 : zFr zSx M M2 := f1.tr (r5.mono (fun a j e => Or.inl e))
  have hS2 : zSt M2 := hS.fr f2 zSx_st
  have hF2 : zFr zSc M M2 := f2.mono (fun _ _ => zSx_c)
  have hR2 := hU.2.fr hU.1 hF2
  have hU2 := hU.fr hF2
  rw [g1] at r3
  rw [g2] at r2
  refine zV_aload_n (pc := 49) (i := 0) dX0_mindsOf_49 rfl rfl ?_
  refine zV_get (pc := 50) (j := 2) dX0_mindsOf_50 flX0_12 (zOb_of rfl) rfl hS2.e52_2 ?_
  refine zV_aload_n (pc := 53) (i := 0) dX0_mindsOf_53 rfl rfl ?_
  refine zV_ivp (pc := 54) (ci := 0) dX0_mindsOf_54 klX0_71 mX0_rule ⟨by decide, rfl⟩ rfl ⟨Nat.zero_le _, Nat.zero_le _⟩ (kX0_rule hS2 hU2.1.1) (zOb_of rfl) rfl rfl (Nat.le_of_ble_eq_true rfl) ?_
  rw [hU2.2]
  refine zV_iconst (pc := 57) dX0_mindsOf_57 ?_
  refine zV_ivq (pc := 58) (ci := 4) dX0_mindsOf_58 klX0_94 mX4_tells ⟨by decide, rfl⟩ rfl ⟨Nat.zero_le _, Nat.zero_le _⟩ (kX4_tells hS2 hU.1 (k := 2) (by omega) (zNm.mk ((r4 0 (by decide) (by decide) (by decide)).trans q1) r1 ((r4 2 (by decide) (by decide) (by decide)).trans q2) r2 ((r4 4 (by decide) (by decide) (by decide)).trans q3) r3 (by omega) (by omega) (by omega) (by omega) (by omega) (by omega)) hR2.1) (zOb_of rfl) rfl rfl (Nat.le_of_ble_eq_true rfl) (fun M3 q9 => ?_)
  refine zV_iret (pc := 61) dX0_mindsOf_61 trivial ⟨Nat.zero_le _, Nat.zero_le _⟩ ?_
  exact ⟨by rw [hR2.2.1, hR2.2.2]; rfl, rfl, f2.tr (q9.mono (fun _ _ => zRk_x))⟩
end
